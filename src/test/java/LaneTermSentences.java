/** The terms of lanes and lines. */
final class LaneTermSentences {
    private static final int NONE = PermitWeave.NONE;
    private static final String BOUNDS = Sentences.BOUNDS, STATE = Sentences.STATE;

    private final Sentences s;

    private LaneTermSentences(Sentences s) {
        this.s = s;
    }

    static void tell(Sentences s) {
        LaneTermSentences terms = new LaneTermSentences(s);
        s.under("Lanes and lines");
        terms.lanes();
        terms.ways();
        terms.lines();
        terms.legs();
        terms.detours();
        terms.atTheHourZero();
    }

    private void lanes() {
        s.test("Lanes are numbered from 0, at most 24.", () -> {
            PermitWeave x = new PermitWeave();
            s.refuses(BOUNDS, "no lane 0 yet", PermitWeave::new, y -> y.isClosed(0));
            for (int lane = 0; lane < 24; lane++) {
                s.is("lane", x.lane(0, 1, 5), lane);
            }
            s.is("the last is one", x.isClosed(23), false);
            s.refuses(STATE, "the 25th", Offices::fullRoads, y -> y.lane(0, 1, 5));
            s.refuses(BOUNDS, "no lane 24", Offices::fullRoads, y -> y.isClosed(24));
        });
        s.test("A lane joins two junctions, both ways, and takes some minutes.", () -> {
            PermitWeave x = new PermitWeave();
            x.lane(3, 8, 11);
            s.is("there", x.way(3, 8), 11);
            s.is("and back", x.way(8, 3), 11);
            s.is("no other junction", x.way(3, 7), NONE);
            PermitWeave row = new PermitWeave();
            row.lane(1, 0, 2);
            row.lane(1, 2, 3);
            row.lane(3, 2, 4);
            s.is("there over lanes of either direction", row.way(0, 3), 9);
            s.is("and back over them", row.way(3, 0), 9);
        });
    }

    private void ways() {
        s.test("A way goes from junction to junction over lanes; its minutes are those of its lanes together.", () -> {
            PermitWeave x = Offices.town();
            s.is("over no lane", x.way(4, 4), 0);
            s.is("over one", x.way(0, 1), 5);
            s.is("over two", x.way(0, 2), 10);
            s.is("over three", x.way(0, 3), 15);
            s.is("over four", x.way(0, 4), 16);
            s.is("to where none leads", x.way(0, 5), NONE);
            for (int middle = 0; middle < 10; middle++) {
                PermitWeave y = new PermitWeave();
                int one = (middle + 3) % 10;
                int other = (middle + 7) % 10;
                y.lane(one, middle, 4);
                y.lane(other, middle, 9);
                s.is("over the junction " + middle, y.way(one, other), 13);
            }
        });
        s.test("The shortest way is one with the fewest minutes.", () -> {
            PermitWeave x = new PermitWeave();
            x.lane(0, 9, 10);
            x.lane(0, 5, 5);
            x.lane(5, 9, 5);
            s.is("two ways alike", x.way(0, 9), 10);
            x.lane(5, 9, 4);
            s.is("two lanes rather than one", x.way(0, 9), 9);
            x.lane(0, 9, 8);
            s.is("one lane rather than two", x.way(0, 9), 8);
            x.lane(9, 0, 20);
            s.is("not the last one between the two", x.way(0, 9), 8);
            PermitWeave zigzag = new PermitWeave();
            int[] along = {0, 9, 1, 8, 2, 7, 3, 6, 4, 5};
            for (int k = 0; k < 9; k++) {
                zigzag.lane(along[k], along[k + 1], 3);
            }
            zigzag.lane(0, 5, 28);
            s.is("nine lanes rather than one", zigzag.way(0, 5), 27);
            zigzag.lane(0, 5, 26);
            s.is("one rather than nine", zigzag.way(5, 0), 26);
        });
    }

    private void lines() {
        s.test("Lines are numbered from 0, at most 6.", () -> {
            PermitWeave x = new PermitWeave();
            s.refuses(BOUNDS, "no line 0 yet", PermitWeave::new, y -> y.detour(0));
            for (int line = 0; line < 6; line++) {
                s.is("line", x.line(0, 1), line);
            }
            s.is("the last is one", x.detour(5), 0);
            s.refuses(STATE, "the 7th", Offices::fullRoads, y -> y.line(0, 1));
            s.refuses(BOUNDS, "no line 6", Offices::fullRoads, y -> y.detour(6));
        });
        s.test("A line carries some passengers in each hour, and has stops, junctions, in a row; it has a leg from "
                + "each stop to the next one.", () -> {
            PermitWeave x = Offices.town();
            x.line(3, 7);
            Offices.dig(x, 0, 5, 0, 40);
            s.is("one stop, no leg", x.detour(0), 0);
            x.stop(0, 4);
            s.is("one leg", x.detour(0), 60);
            x.stop(0, 3);
            s.is("a leg back", x.detour(0), 120);
            x.stop(0, 2);
            s.is("a leg that is not hurt", x.detour(0), 120);
            x.pass(1);
            s.is("7 passengers in an hour", x.minutes(0), 7 * 120);
            x.pass(1);
            s.is("and in the next", x.minutes(0), 7 * 240);
            PermitWeave row = Offices.town();
            row.line(4, 1);
            row.stop(0, 3);
            row.stop(0, 2);
            Offices.dig(row, 0, 0, 0, 40);
            s.is("no leg from the last stop to the first", row.detour(0), 0);
        });
    }

    /** A lane of 2 minutes with a line of 10 passengers over it, and some minutes round it, 41 at least. */
    private static PermitWeave ringOf(int round) {
        PermitWeave x = new PermitWeave();
        x.lane(0, 1, 2);
        x.lane(1, 2, 30);
        x.lane(2, 3, 10);
        x.lane(3, 0, round - 40);
        x.line(0, 10);
        x.stop(0, 1);
        return x;
    }

    private void legs() {
        s.test("A leg takes the minutes of the shortest way over lanes that are not closed, but 60 more than over all "
                + "lanes, if there is none.", () -> {
            for (int round : new int[] {61, 62, 63, 64}) {
                PermitWeave x = ringOf(round);
                Offices.dig(x, 0, 0, 0, 40);
                s.is("round by " + round, x.detour(0), round - 2);
                Offices.dig(x, 0, 2, 0, 40);
                s.is("no way", x.detour(0), 60);
            }
            PermitWeave x = Offices.town();
            x.line(0, 1);
            x.stop(0, 4);
            Offices.dig(x, 0, 2, 0, 40);
            s.is("a way round", x.detour(0), 2);
            Offices.dig(x, 0, 5, 0, 40);
            s.is("60 more than over all lanes, not than over those left", x.detour(0), 60);
            PermitWeave alike = new PermitWeave();
            alike.lane(0, 1, 5);
            alike.lane(0, 1, 5);
            alike.line(0, 1);
            alike.stop(0, 1);
            Offices.dig(alike, 0, 0, 0, 40);
            s.is("another way alike", alike.detour(0), 0);
        });
    }

    private void detours() {
        s.test("The detour of a line is what all its legs take, less what they would take if no lane was "
                + "closed.", () -> {
            PermitWeave x = Offices.town();
            x.line(0, 1);
            x.stop(0, 3);
            x.stop(0, 4);
            s.is("nothing is closed", x.detour(0), 0);
            Offices.dig(x, 0, 3, 0, 40);
            s.is("a lane that no leg takes", x.detour(0), 0);
            Offices.dig(x, 0, 2, 0, 40);
            s.is("one leg takes 2 more", x.detour(0), 2);
            Offices.dig(x, 0, 5, 0, 40);
            s.is("another 60 more", x.detour(0), 62);
            PermitWeave all = Offices.fullRoads();
            for (int lane = 0; lane < 24; lane++) {
                Offices.dig(all, 0, lane, 0, 40);
            }
            for (int line = 0; line < 6; line++) {
                s.is("five legs without a way", all.detour(line), 300);
            }
            PermitWeave grown = Offices.ring();
            Offices.dig(grown, 0, 0, 0, 40);
            s.is("before a lane is added", grown.detour(0), 89);
            grown.lane(1, 0, 3);
            s.is("a slower lane is added", grown.detour(0), 2);
            PermitWeave quicker = Offices.street();
            Offices.dig(quicker, 0, 0, 0, 40);
            s.is("before", quicker.detour(0), 3);
            quicker.lane(0, 1, 2);
            s.is("a lane quicker than all is added", quicker.detour(0), 0);
        });
    }

    private void atTheHourZero() {
        s.test("Lanes are added, and stops set, as long as now is the hour 0 only.", () -> {
            PermitWeave x = Offices.town();
            x.line(0, 1);
            Offices.dig(x, 0, 0, 0, 40);
            x.finish(0);
            s.is("a lane after a dig at the hour 0", x.lane(0, 1, 1), 6);
            s.is("a stop after it", x.stop(0, 1), 2);
            for (int hour : new int[] {1, 4999, 5000}) {
                s.refuses(STATE, "a lane at " + hour, () -> Offices.townAt(hour), y -> y.lane(0, 1, 1));
                s.refuses(STATE, "a stop at " + hour, () -> Offices.townAt(hour), y -> y.stop(0, 1));
            }
        });
    }
}
