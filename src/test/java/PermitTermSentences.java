/** The terms of permits: hours, notice, openings, why an application is REFUSED, fees. */
final class PermitTermSentences {
    private static final int NONE = PermitWeave.NONE;
    private static final int GRANTED = PermitWeave.GRANTED, REFUSED = PermitWeave.REFUSED;
    private static final int LATE = PermitWeave.LATE, CHAIN = PermitWeave.CHAIN, LONG = PermitWeave.LONG,
            TWICE = PermitWeave.TWICE;
    private static final String STATE = Sentences.STATE, BOUNDS = Sentences.BOUNDS;

    private final Sentences s;

    private PermitTermSentences(Sentences s) {
        this.s = s;
    }

    static void tell(Sentences s) {
        PermitTermSentences terms = new PermitTermSentences(s);
        s.under("Permits");
        terms.permits();
        terms.notice();
        terms.openings();
        terms.firstCause();
        terms.late();
        terms.chain();
        terms.chainByHours();
        terms.longOpenings();
        terms.twice();
        terms.twiceInASeason();
        terms.lowestPermit();
        terms.notWithThese();
        terms.hoursInCommon();
        terms.hoursOfBoth();
        terms.fees();
    }

    /** An application of the applicant 0, not urgent, that needs none. */
    private static int plain(PermitWeave x, int lane, int from, int hours) {
        return x.apply(0, lane, from, hours, NONE, false);
    }

    private static PermitWeave townWith(int from, int hours) {
        PermitWeave x = Offices.town();
        plain(x, 0, from, hours);
        return x;
    }

    private void decided(String what, PermitWeave x, int permit, int cause) {
        s.is(what, x.cause(permit), cause);
        s.is(what + ", state", x.state(permit), cause == NONE ? GRANTED : REFUSED);
    }

    private void hoursAre(String what, PermitWeave x, int permit, int from, int end) {
        s.is(what + ", from", x.from(permit), from);
        s.is(what + ", end", x.end(permit), end);
    }

    private void permits() {
        s.test("Permits are numbered from 0, at most 40.", () -> {
            s.refuses(BOUNDS, "no permit 0 yet", Offices::town, x -> x.state(0));
            PermitWeave x = Offices.town();
            for (int permit = 0; permit < 40; permit++) {
                s.is("apply", plain(x, 0, permit, 1), permit);
            }
            s.is("the last is one", x.from(39), 39);
            s.refuses(STATE, "the 41st", Offices::full, y -> plain(y, 0, 4900, 1));
            s.refuses(BOUNDS, "no permit 40", Offices::full, y -> y.state(40));
        });
        s.test("A permit is applied for by an applicant, for a lane, from some hour on, for some hours; it may need "
                + "another permit, and may be urgent.", () -> {
            PermitWeave x = Offices.street();
            x.apply(3, 0, 10, 5, NONE, false);
            x.apply(4, 1, 15, 6, 0, true);
            x.begin(0);
            x.pass(1);
            s.is("the applicant", x.points(3), 1);
            s.is("the lane", x.isClosed(0), true);
            hoursAre("the hours", x, 1, 15, 21);
            s.is("it needs the other", Due.thrownBy(() -> x.begin(1)), STATE);
        });
        s.test("Its hours are from that hour on, up to its end, that hour not included.", () -> {
            PermitWeave x = Offices.street();
            plain(x, 0, 10, 3);
            hoursAre("3 hours from 10", x, 0, 10, 13);
            x.begin(0);
            int[] fines = {60, 120, 180, 240, 300, 360, 420, 480, 540, 600, 600, 600, 600, 660, 720};
            for (int hour = 0; hour < fines.length; hour++) {
                x.pass(1);
                s.is("the fine when the hour " + hour + " has passed", x.fine(0), fines[hour]);
            }
        });
    }

    /** The street at the hour 10, when there have been so many complaints about the applicant 0. */
    private static PermitWeave complainedOf(int complaints) {
        PermitWeave x = Offices.street();
        x.pass(10);
        Offices.dig(x, 0, 0, 10, 40);
        for (int k = 0; k < complaints; k++) {
            x.complain(0);
        }
        x.finish(0);
        return x;
    }

    private void notice() {
        s.test("An applicant has points, 0 at first.", () -> {
            for (int applicant = 0; applicant < 6; applicant++) {
                s.is("points(" + applicant + ")", new PermitWeave().points(applicant), 0);
                s.is("in a full office", Offices.full().points(applicant), 0);
            }
        });
        s.test("The notice of an applicant is 2 hours, and 3 for each point.", () -> {
            for (int points = 0; points <= 12; points++) {
                int first = 10 + 2 + 3 * points;
                PermitWeave x = complainedOf(points);
                decided(points + " points, an hour too soon", x, plain(x, 1, first - 1, 1), LATE);
                decided(points + " points, just in time", x, plain(x, 1, first, 1), NONE);
                decided("another applicant", x, x.apply(1, 1, 500, 1, NONE, false), NONE);
            }
            PermitWeave x = complainedOf(12);
            decided("none of another's points", x, x.apply(1, 1, 12, 1, NONE, false), NONE);
            x.pass(190);
            s.is("two points are forgiven", x.points(0), 10);
            decided("by the points that are left", x, plain(x, 1, 231, 1), LATE);
            decided("and in time", x, plain(x, 2 - 1, 500, 1), NONE);
        });
    }

    private void openings() {
        s.test("Openings. A lane is opened by openings; an opening has hours, which it keeps when a permit of it "
                + "becomes VOID, and the permits that are put together in it.", () -> {
            PermitWeave x = townWith(10, 5);
            s.is("an opening", x.openings(0, 0), 1);
            plain(x, 0, 14, 6);
            s.is("put together", x.together(0), 0b11);
            x.withdraw(1);
            hoursAre("of the one that is left", x, 0, 10, 20);
            hoursAre("of the VOID one", x, 1, 10, 20);
            s.is("the fee of 10 hours", x.fee(0), 2000);
            decided("it has the hour 19 yet", x, plain(x, 0, 19, 1), NONE);
            s.is("put together in it", x.together(2), 0b101);
            decided("but not the hour 20", x, plain(x, 0, 20, 1), TWICE);
            PermitWeave first = townWith(10, 5);
            plain(first, 0, 6, 5);
            first.withdraw(1);
            hoursAre("when the earlier one is VOID", first, 0, 6, 15);
            first.withdraw(0);
            hoursAre("when all are VOID", first, 0, 6, 15);
        });
        s.test("It is there as long as one of these permits is not VOID.", () -> {
            PermitWeave x = townWith(10, 5);
            s.is("one GRANTED", x.openings(0, 0), 1);
            plain(x, 0, 12, 5);
            plain(x, 0, 13, 1);
            x.withdraw(0);
            s.is("two of three", x.openings(0, 0), 1);
            x.withdraw(2);
            s.is("one of three", x.openings(0, 0), 1);
            x.begin(1);
            s.is("one OPEN", x.openings(0, 0), 1);
            x.finish(1);
            s.is("one DONE", x.openings(0, 0), 1);
            PermitWeave y = townWith(10, 5);
            y.withdraw(0);
            s.is("none", y.openings(0, 0), 0);
            decided("the season is free", y, plain(y, 0, 20, 5), NONE);
            s.is("another opening", y.openings(0, 0), 1);
        });
    }

    /**
     * The permit 0 is of lane 0 from 20 to 50, 1 is REFUSED, 2 is of lane 0 and urgent. So what needs 0, and is for
     * lane 0 and 40 hours from 40 on, is CHAIN and LONG and TWICE.
     */
    private static PermitWeave forAllCauses() {
        PermitWeave x = townWith(20, 30);
        plain(x, 0, 0, 1);
        x.apply(0, 0, 100, 1, NONE, true);
        return x;
    }

    private void firstCause() {
        s.test("An application is REFUSED for the first of these that applies:", () -> {
            PermitWeave x = forAllCauses();
            decided("LATE and CHAIN", x, x.apply(0, 1, 1, 40, 1, false), LATE);
            decided("CHAIN alone", x, x.apply(0, 1, 2, 1, 1, false), CHAIN);
            decided("CHAIN, LONG and TWICE", x, x.apply(0, 0, 40, 40, 0, false), CHAIN);
            decided("LONG and TWICE", x, plain(x, 0, 40, 40), LONG);
            decided("TWICE alone", x, plain(x, 0, 40, 10), TWICE);
            decided("CHAIN and TWICE", x, x.apply(0, 0, 49, 1, 0, false), CHAIN);
            decided("none of them", x, x.apply(0, 1, 50, 40, 0, false), NONE);
            decided("CHAIN, urgent", x, x.apply(0, 0, 40, 40, 0, true), CHAIN);
            x.pass(39);
            decided("all four", x, x.apply(0, 0, 40, 40, 0, false), LATE);
            decided("LATE and LONG", x, plain(x, 0, 40, 40), LATE);
            decided("LATE and TWICE", x, plain(x, 0, 40, 1), LATE);
        });
    }

    private void late() {
        s.test("LATE: it is not urgent, and from is less than now and the notice of the applicant, together.", () -> {
            for (int now : new int[] {0, 1, 97, 498, 4898}) {
                PermitWeave x = Offices.townAt(now);
                decided("now, at " + now, x, plain(x, 0, now, 1), LATE);
                decided("the next hour, at " + now, x, plain(x, 0, now + 1, 1), LATE);
                decided("two hours ahead, at " + now, x, plain(x, 0, now + 2, 1), NONE);
                decided("now, urgent", x, x.apply(0, 0, now, 1, NONE, true), NONE);
            }
            PermitWeave x = Offices.townAt(4899);
            decided("4900 at 4899", x, plain(x, 0, 4900, 1), LATE);
            decided("4900 at 4899, urgent", x, x.apply(0, 0, 4900, 1, NONE, true), NONE);
            PermitWeave y = complainedOf(2);
            decided("urgent in spite of points", y, y.apply(0, 1, 10, 1, NONE, true), NONE);
        });
    }

    private void chain() {
        s.test("CHAIN: the permit that it needs is REFUSED or VOID", () -> {
            PermitWeave x = townWith(10, 5);
            int refused = plain(x, 0, 1, 1);
            decided("the other is REFUSED", x, x.apply(0, 1, 4900, 1, refused, false), CHAIN);
            decided("the other is REFUSED, urgent", x, x.apply(0, 1, 4900, 1, refused, true), CHAIN);
            decided("the other is REFUSED as CHAIN", x, x.apply(0, 1, 4900, 1, 2, true), CHAIN);
            decided("the other is GRANTED", x, x.apply(0, 1, 15, 1, 0, false), NONE);
            x.begin(0);
            decided("the other is OPEN", x, x.apply(0, 2, 15, 1, 0, false), NONE);
            x.finish(0);
            decided("the other is DONE", x, x.apply(0, 3, 15, 1, 0, false), NONE);
            x.withdraw(6);
            decided("the other is VOID", x, x.apply(0, 1, 4900, 1, 6, false), CHAIN);
            decided("the other is VOID, urgent", x, x.apply(0, 1, 4900, 1, 6, true), CHAIN);
        });
    }

    private void chainByHours() {
        s.test("or the end of the hours of that one's opening is above from", () -> {
            for (boolean isUrgent : new boolean[] {false, true}) {
                PermitWeave x = townWith(10, 5);
                decided("an hour before its end", x, x.apply(0, 1, 14, 1, 0, isUrgent), CHAIN);
                decided("at its first hour", x, x.apply(0, 1, 10, 1, 0, isUrgent), CHAIN);
                decided("ahead of its hours", x, x.apply(0, 1, 5, 1, 0, isUrgent), CHAIN);
                decided("at its end", x, x.apply(0, 1, 15, 1, 0, isUrgent), NONE);
            }
            PermitWeave grown = townWith(10, 5);
            plain(grown, 0, 14, 6);
            decided("before the end of its opening", grown, grown.apply(0, 1, 19, 1, 0, false), CHAIN);
            grown.withdraw(1);
            decided("before the end that the opening keeps", grown, grown.apply(0, 1, 19, 1, 0, false), CHAIN);
            decided("at that end", grown, grown.apply(0, 1, 20, 1, 0, false), NONE);
            PermitWeave done = townWith(10, 5);
            done.begin(0);
            done.finish(0);
            decided("DONE long before its end", done, done.apply(0, 1, 14, 1, 0, false), CHAIN);
            PermitWeave own = townWith(10, 5);
            plain(own, 1, 12, 5);
            decided("by from, not by the opening that it joins", own, own.apply(0, 1, 15, 1, 0, false), NONE);
            hoursAre("of that opening", own, 2, 12, 17);
        });
    }

    private void longOpenings() {
        s.test("LONG: it would be put together with an opening, and the hours of that would be more than 40.", () -> {
            for (int last : new int[] {59, 60}) {
                PermitWeave x = townWith(20, 10);
                decided("from 20 to " + last, x, plain(x, 0, 29, last - 29), NONE);
                PermitWeave y = townWith(60 - 20, 10);
                decided("from " + (last - 49) + " to 50", y, plain(y, 0, last - 49, 40), NONE);
            }
            PermitWeave x = townWith(20, 10);
            decided("from 20 to 61", x, plain(x, 0, 29, 32), LONG);
            decided("from 19 to 60, then", x, plain(x, 0, 29, 31), NONE);
            decided("the opening has 40, one more behind", x, plain(x, 0, 59, 2), LONG);
            decided("one more ahead", x, plain(x, 0, 19, 2), LONG);
            decided("none more", x, plain(x, 0, 20, 40), NONE);
            hoursAre("40 hours", x, 0, 20, 60);
            decided("41 hours, urgent", x, x.apply(0, 0, 59, 2, NONE, true), NONE);
            PermitWeave y = townWith(50, 2);
            decided("from 11 to 52", y, plain(y, 0, 11, 40), LONG);
            decided("40 hours round it", y, plain(y, 0, 12, 40), NONE);
            PermitWeave alone = townWith(10, 40);
            decided("40 hours by itself", alone, 0, NONE);
            PermitWeave kept = townWith(20, 10);
            plain(kept, 0, 29, 31);
            kept.withdraw(1);
            decided("with the hours that it keeps", kept, plain(kept, 0, 19, 2), LONG);
        });
    }

    private void twice() {
        s.test("TWICE: it is not urgent, and there is an opening of its lane, another one than that with which it "
                + "would be put together", () -> {
            PermitWeave x = townWith(100, 10);
            decided("just behind", x, plain(x, 0, 110, 5), TWICE);
            decided("just ahead", x, plain(x, 0, 95, 5), TWICE);
            decided("urgent", x, x.apply(0, 0, 120, 5, NONE, true), NONE);
            decided("another lane", x, plain(x, 1, 110, 5), NONE);
            decided("put together, but for the urgent one", x, plain(x, 0, 105, 1), TWICE);
            x.withdraw(3);
            decided("put together", x, plain(x, 0, 105, 1), NONE);
            x.withdraw(0);
            decided("one of its permits is left", x, plain(x, 0, 110, 5), TWICE);
            x.withdraw(6);
            decided("it is there no more", x, plain(x, 0, 110, 5), NONE);
            x.begin(8);
            decided("it is OPEN", x, plain(x, 0, 130, 5), TWICE);
            x.finish(8);
            decided("it is DONE", x, plain(x, 0, 130, 5), TWICE);
            PermitWeave refused = townWith(1, 10);
            decided("beside a REFUSED one", refused, plain(refused, 0, 20, 5), NONE);
            PermitWeave urgent = Offices.town();
            urgent.apply(0, 0, 100, 10, NONE, true);
            decided("beside an urgent one, in its hours", urgent, plain(urgent, 0, 105, 1), TWICE);
            decided("urgent beside urgent", urgent, urgent.apply(0, 0, 105, 1, NONE, true), NONE);
        });
    }

    private void twiceInASeason() {
        s.test("whose first hour is of the same season as the first hour that its own opening would have", () -> {
            PermitWeave x = townWith(480, 19);
            decided("499, the last hour of its season", x, plain(x, 0, 499, 1), TWICE);
            decided("500, the first hour of the next", x, plain(x, 0, 500, 1), NONE);
            decided("999", x, plain(x, 0, 999, 1), TWICE);
            decided("1000", x, plain(x, 0, 1000, 1), NONE);
            decided("2, in the first season", x, plain(x, 0, 2, 1), TWICE);
            PermitWeave across = townWith(490, 20);
            decided("its first hour counts, not its last", across, plain(across, 0, 510, 5), NONE);
            PermitWeave ahead = townWith(501, 10);
            ahead.apply(0, 0, 100, 1, NONE, true);
            decided("put together, from 499 on", ahead, plain(ahead, 0, 499, 3), TWICE);
            decided("put together, from 500 on", ahead, plain(ahead, 0, 500, 3), NONE);
            PermitWeave behind = townWith(499, 10);
            behind.apply(0, 0, 600, 1, NONE, true);
            decided("from is 500, but the opening's first hour 499", behind, plain(behind, 0, 500, 3), NONE);
            PermitWeave moved = townWith(501, 10);
            plain(moved, 0, 499, 3);
            decided("the opening has come into the season 0", moved, plain(moved, 0, 100, 1), TWICE);
            decided("and left the season 1", moved, plain(moved, 0, 600, 1), NONE);
        });
    }

    /** Of lane 0: the first permit from some hour for 4 hours, the second from another. */
    private static PermitWeave twoOpenings(int first, int second) {
        PermitWeave x = townWith(first, 4);
        plain(x, 0, second, 4);
        return x;
    }

    private void lowestPermit() {
        s.test("It is put together, if it is not urgent, with the opening of the lowest permit among those", () -> {
            PermitWeave x = twoOpenings(494, 503);
            decided("it meets both", x, plain(x, 0, 497, 7), NONE);
            s.is("with the permit 0", x.together(2), 0b101);
            hoursAre("with the permit 0", x, 2, 494, 504);
            hoursAre("of the other", x, 1, 503, 507);
            decided("both have the hour 503 now", x, plain(x, 0, 503, 1), NONE);
            s.is("with the permit 0 again", x.together(3), 0b1101);
            x.withdraw(0);
            decided("the permit 0 is VOID", x, plain(x, 0, 503, 2), NONE);
            s.is("with the permit 1 now", x.together(4), 0b10010);
            PermitWeave y = twoOpenings(503, 494);
            decided("with the later one, if it is lower", y, plain(y, 0, 497, 7), TWICE);
            y.withdraw(1);
            decided("with the later one alone", y, plain(y, 0, 497, 7), NONE);
            s.is("together", y.together(3), 0b1001);
            PermitWeave urgent = townWith(10, 5);
            decided("urgent", urgent, urgent.apply(0, 0, 10, 5, NONE, true), NONE);
            s.is("urgent, by itself", urgent.together(1), 0b10);
        });
    }

    private void notWithThese() {
        s.test("not urgent and neither REFUSED nor VOID", () -> {
            PermitWeave urgent = Offices.town();
            urgent.apply(0, 0, 499, 10, NONE, true);
            decided("an urgent one has these hours", urgent, plain(urgent, 0, 500, 5), NONE);
            s.is("not put together with it", urgent.together(1), 0b10);
            hoursAre("its own hours", urgent, 1, 500, 505);
            PermitWeave refused = townWith(1, 20);
            decided("a REFUSED one has these hours", refused, plain(refused, 0, 10, 5), NONE);
            s.is("not put together with it", refused.together(1), 0b10);
            hoursAre("its own hours", refused, 1, 10, 15);
            PermitWeave empty = townWith(8, 20);
            empty.withdraw(0);
            decided("a VOID one had these hours", empty, plain(empty, 0, 10, 5), NONE);
            s.is("not put together with it", empty.together(1), 0b10);
            hoursAre("its own hours", empty, 1, 10, 15);
            PermitWeave open = townWith(8, 20);
            open.begin(0);
            decided("an OPEN one", open, plain(open, 0, 10, 5), NONE);
            s.is("put together with it", open.together(1), 0b11);
            PermitWeave done = townWith(8, 20);
            done.begin(0);
            done.finish(0);
            decided("a DONE one", done, plain(done, 0, 27, 5), NONE);
            s.is("put together with it", done.together(1), 0b11);
            hoursAre("of both", done, 0, 8, 32);
        });
    }

    private void hoursInCommon() {
        s.test("of openings of its lane whose hours have an hour in common with its own ones", () -> {
            int[][] meeting = {{20, 10}, {29, 1}, {29, 5}, {20, 1}, {16, 5}, {15, 20}, {24, 2}};
            for (int[] hours : meeting) {
                PermitWeave x = townWith(20, 10);
                decided("from " + hours[0] + " for " + hours[1], x, plain(x, 0, hours[0], hours[1]), NONE);
                s.is("together", x.together(1), 0b11);
            }
            int[][] beside = {{30, 5}, {30, 1}, {19, 1}, {15, 5}, {31, 5}, {10, 5}};
            for (int[] hours : beside) {
                PermitWeave x = townWith(20, 10);
                decided("from " + hours[0] + " for " + hours[1], x, plain(x, 0, hours[0], hours[1]), TWICE);
            }
            PermitWeave x = townWith(20, 10);
            decided("another lane", x, plain(x, 1, 20, 10), NONE);
            s.is("not together", x.together(1), 0b10);
            PermitWeave seasons = townWith(490, 10);
            decided("from its end on, in the next season", seasons, plain(seasons, 0, 500, 5), NONE);
            s.is("not together there", seasons.together(1), 0b10);
        });
    }

    private void hoursOfBoth() {
        s.test("the hours of that opening become those from the first one to the last one of both", () -> {
            PermitWeave x = townWith(20, 10);
            plain(x, 0, 29, 5);
            hoursAre("longer at the end", x, 0, 20, 34);
            plain(x, 0, 16, 5);
            hoursAre("and at the beginning", x, 0, 16, 34);
            plain(x, 0, 18, 2);
            hoursAre("not by one within", x, 0, 16, 34);
            hoursAre("of that one", x, 3, 16, 34);
            plain(x, 0, 15, 20);
            hoursAre("at both", x, 0, 15, 35);
            plain(x, 0, 99, 1);
            hoursAre("not by a REFUSED one", x, 0, 15, 35);
        });
        s.test("Otherwise it has an opening by itself.", () -> {
            PermitWeave x = townWith(20, 10);
            x.apply(0, 0, 25, 10, NONE, true);
            plain(x, 1, 25, 10);
            plain(x, 0, 520, 10);
            for (int permit = 1; permit < 4; permit++) {
                s.is("permit " + permit + " by itself", x.together(permit), 1L << permit);
                s.is("its end", x.end(permit), permit < 3 ? 35 : 530);
                s.is("its fee", x.fee(permit), 2000);
            }
            s.is("two openings", x.openings(0, 0), 2);
        });
        s.test("It is GRANTED then; the hours of a permit are those of its opening.", () -> {
            PermitWeave x = townWith(20, 10);
            s.is("by itself", x.state(0), GRANTED);
            hoursAre("by itself", x, 0, 20, 30);
            x.apply(5, 0, 15, 6, NONE, false);
            s.is("put together", x.state(1), GRANTED);
            hoursAre("put together", x, 1, 15, 30);
            hoursAre("the earlier one", x, 0, 15, 30);
        });
    }

    private static PermitWeave together(int count, int hours) {
        PermitWeave x = Offices.town();
        for (int permit = 0; permit < count; permit++) {
            plain(x, 0, 10, hours);
        }
        return x;
    }

    private void fees() {
        s.test("A fee is due for an opening: 1000, and 100 for each of its hours.", () -> {
            for (int hours = 1; hours <= 40; hours++) {
                s.is("fee for " + hours, townWith(10, hours).fee(0), 1000 + 100 * hours);
            }
            PermitWeave grown = townWith(10, 1);
            plain(grown, 0, 10, 40);
            grown.withdraw(1);
            s.is("for the hours that it keeps", grown.fee(0), 5000);
        });
        s.test("It is shared among its permits that are not VOID", () -> {
            PermitWeave x = together(4, 2);
            s.is("a quarter", x.fee(3), 300);
            x.withdraw(1);
            s.is("a third", x.fee(3), 400);
            s.is("VOID", x.fee(1), 0);
            x.begin(0);
            s.is("with one OPEN", x.fee(3), 400);
            x.finish(0);
            s.is("with one DONE", x.fee(3), 400);
            x.withdraw(2);
            x.withdraw(3);
            s.is("all for one", x.fee(0), 1200);
        });
        s.test("each pays it divided by how many they are, rounded down", () -> {
            s.is("1100 among 3", together(3, 1).fee(2), 366);
            s.is("1100 among 40", together(40, 1).fee(39), 27);
            s.is("5000 among 40", together(40, 40).fee(39), 125);
            s.is("5000 among 39", together(39, 40).fee(38), 128);
        });
        s.test("and the lowest of them what is left besides", () -> {
            s.is("1100 among 3", together(3, 1).fee(0), 366 + 2);
            s.is("1100 among 40", together(40, 1).fee(0), 27 + 20);
            s.is("5000 among 40", together(40, 40).fee(0), 125);
            s.is("not the second", together(3, 1).fee(1), 366);
            PermitWeave x = together(4, 1);
            x.withdraw(0);
            s.is("the lowest that is left", x.fee(1), 366 + 2);
            s.is("the next", x.fee(2), 366);
        });
    }
}
