/** Promises 1 to 9: a new object, lanes and lines. */
final class RoadSentences {
    private static final int NONE = PermitWeave.NONE;
    private static final String BOUNDS = Sentences.BOUNDS, ARGUMENT = Sentences.ARGUMENT, STATE = Sentences.STATE;
    private static final int[] NO_JUNCTIONS = Sentences.beside(0, 9);
    private static final int[] NO_LANES_OF_THE_TOWN = Sentences.beside(0, 5);
    private static final int[] NO_LINES_OF_THE_STREET = Sentences.beside(0, 0);

    private final Sentences s;

    private RoadSentences(Sentences s) {
        this.s = s;
    }

    static void tell(Sentences s) {
        RoadSentences roads = new RoadSentences(s);
        roads.newObject();
        roads.lane();
        roads.laneIsRefused();
        roads.line();
        roads.lineIsRefused();
        roads.stop();
        roads.stopIsRefused();
        roads.way();
        roads.isClosed();
        roads.detour();
        roads.minutes();
        roads.minutesAnew();
    }

    private void newObject() {
        s.under("Promise 1: A new object");
        s.test("No lanes, lines and permits.", () -> {
            s.refuses(BOUNDS, "isClosed(0)", PermitWeave::new, x -> x.isClosed(0));
            s.refuses(BOUNDS, "openings(0, 0)", PermitWeave::new, x -> x.openings(0, 0));
            s.refuses(BOUNDS, "apply for lane 0", PermitWeave::new, x -> x.apply(0, 0, 10, 1, NONE, false));
            s.refuses(BOUNDS, "detour(0)", PermitWeave::new, x -> x.detour(0));
            s.refuses(BOUNDS, "stop(0, 1)", PermitWeave::new, x -> x.stop(0, 1));
            s.refuses(BOUNDS, "complain(0)", PermitWeave::new, x -> x.complain(0));
            s.refuses(BOUNDS, "state(0)", PermitWeave::new, x -> x.state(0));
            s.refuses(BOUNDS, "begin(0)", PermitWeave::new, x -> x.begin(0));
            for (int from = 0; from < 10; from++) {
                for (int to = 0; to < 10; to++) {
                    s.is("way(" + from + ", " + to + ")", new PermitWeave().way(from, to), from == to ? 0 : NONE);
                }
            }
            PermitWeave[] two = {Offices.busy(), new PermitWeave()};
            s.is("of a new object beside a busy one", Views.ofPermits(two[1]), Views.ofPermits(new PermitWeave()));
            s.is("its first lane", two[1].lane(0, 1, 1), 0);
            s.is("its first line", two[1].line(0, 1), 0);
            s.is("its first permit", two[1].apply(0, 0, 10, 1, NONE, false), 0);
        });
    }

    private void lane() {
        s.under("Promise 2: lane");
        s.test("Adds a lane.", () -> {
            PermitWeave x = new PermitWeave();
            s.refuses(BOUNDS, "isClosed before it is added", PermitWeave::new, y -> y.isClosed(0));
            x.lane(2, 7, 13);
            s.is("a way over it", x.way(2, 7), 13);
            s.is("closed", x.isClosed(0), false);
            s.is("no other way", x.way(2, 6), NONE);
        });
        s.test("`one`: a junction, 0 to 9", () -> {
            for (int junction : new int[] {0, 9}) {
                PermitWeave x = new PermitWeave();
                s.is("lane(" + junction + ", 5, 8)", x.lane(junction, 5, 8), 0);
                s.is("way(" + junction + ", 5)", x.way(junction, 5), 8);
            }
            s.refuses(BOUNDS, "lane(-1, 5, 8)", Offices::town, x -> x.lane(-1, 5, 8));
            s.refuses(BOUNDS, "lane(10, 5, 8)", Offices::town, x -> x.lane(10, 5, 8));
        });
        s.test("`other`: another one", () -> {
            for (int junction : new int[] {0, 4, 6, 9}) {
                PermitWeave x = new PermitWeave();
                s.is("lane(5, " + junction + ", 8)", x.lane(5, junction, 8), 0);
                s.is("way(5, " + junction + ")", x.way(5, junction), 8);
            }
            s.refuses(ARGUMENT, "lane(5, 5, 8)", Offices::town, x -> x.lane(5, 5, 8));
            s.refuses(BOUNDS, "lane(5, -1, 8)", Offices::town, x -> x.lane(5, -1, 8));
            s.refuses(BOUNDS, "lane(5, 10, 8)", Offices::town, x -> x.lane(5, 10, 8));
        });
        s.test("`minutes`: 1 to 30", () -> {
            for (int minutes : new int[] {1, 2, 29, 30}) {
                PermitWeave x = new PermitWeave();
                s.is("lane(0, 1, " + minutes + ")", x.lane(0, 1, minutes), 0);
                s.is("its minutes", x.way(0, 1), minutes);
            }
            s.refuses(ARGUMENT, "lane(0, 1, 0)", Offices::town, x -> x.lane(0, 1, 0));
            s.refuses(ARGUMENT, "lane(0, 1, 31)", Offices::town, x -> x.lane(0, 1, 31));
        });
        s.test("Returns its number.", () -> {
            PermitWeave x = new PermitWeave();
            for (int lane = 0; lane < 24; lane++) {
                s.is("lane", x.lane(lane % 3, 3 + lane % 7, 1 + lane % 30), lane);
                int added = lane;
                s.is("it is there", Due.answer(() -> x.isClosed(added) ? 1 : 0), "0");
            }
        });
    }

    private void laneIsRefused() {
        s.test("Throws `IndexOutOfBoundsException` if there is no such junction", () -> {
            s.refusesEach(BOUNDS, "lane from", NO_JUNCTIONS, Offices::town, (x, wrong) -> x.lane(wrong, 1, 5));
            s.refusesEach(BOUNDS, "lane to", NO_JUNCTIONS, Offices::town, (x, wrong) -> x.lane(1, wrong, 5));
            s.refusesEach(BOUNDS, "no lane from and to", NO_JUNCTIONS, Offices::town,
                    (x, wrong) -> x.lane(wrong, wrong, 5));
            s.refusesEach(BOUNDS, "0 minutes from", NO_JUNCTIONS, Offices::town, (x, wrong) -> x.lane(wrong, 1, 0));
            s.refusesEach(BOUNDS, "31 minutes to", NO_JUNCTIONS, Offices::town, (x, wrong) -> x.lane(1, wrong, 31));
            s.refusesEach(BOUNDS, "the 25th from", NO_JUNCTIONS, Offices::full, (x, wrong) -> x.lane(wrong, 1, 5));
            s.refusesEach(BOUNDS, "the 25th to", NO_JUNCTIONS, Offices::full, (x, wrong) -> x.lane(1, wrong, 5));
            s.refusesEach(BOUNDS, "late, from", NO_JUNCTIONS, Offices::busy, (x, wrong) -> x.lane(wrong, 1, 5));
            s.refusesEach(BOUNDS, "late, to, 0 minutes", NO_JUNCTIONS, Offices::busy,
                    (x, wrong) -> x.lane(1, wrong, 0));
        });
        s.test("Throws `IllegalArgumentException` if both are the same, or minutes is out of its range", () -> {
            for (int junction = 0; junction < 10; junction++) {
                int same = junction;
                s.refuses(ARGUMENT, "both are " + same, Offices::town, x -> x.lane(same, same, 5));
            }
            int[] noMinutes = Sentences.beside(1, 30);
            s.refusesEach(ARGUMENT, "minutes", noMinutes, Offices::town, (x, wrong) -> x.lane(0, 1, wrong));
            s.refusesEach(ARGUMENT, "both wrong", noMinutes, Offices::town, (x, wrong) -> x.lane(1, 1, wrong));
            s.refusesEach(ARGUMENT, "the 25th, minutes", noMinutes, Offices::full, (x, wrong) -> x.lane(0, 1, wrong));
            s.refusesEach(ARGUMENT, "late, minutes", noMinutes, Offices::busy, (x, wrong) -> x.lane(0, 1, wrong));
            s.refuses(ARGUMENT, "the 25th, both are the same", Offices::full, x -> x.lane(0, 0, 5));
            s.refuses(ARGUMENT, "late, both are the same", Offices::busy, x -> x.lane(0, 0, 5));
        });
        s.test("Throws `IllegalStateException` if there are 24, or now is not the hour 0", () -> {
            PermitWeave x = new PermitWeave();
            for (int lane = 0; lane < 24; lane++) {
                s.is("lane", x.lane(0, 1, 5), lane);
            }
            s.refuses(STATE, "the 25th", Offices::fullRoads, y -> y.lane(0, 1, 5));
            s.refuses(STATE, "the 25th of a full office", Offices::full, y -> y.lane(9, 8, 30));
            for (int hour : new int[] {1, 2, 100, 500, 5000}) {
                s.refuses(STATE, "at the hour " + hour, () -> Offices.townAt(hour), y -> y.lane(0, 1, 5));
            }
            s.is("at the hour 0", Offices.townAt(0).lane(0, 1, 5), 6);
            s.refuses(STATE, "the 25th at the hour 1", () -> {
                PermitWeave y = Offices.fullRoads();
                y.pass(1);
                return y;
            }, y -> y.lane(0, 1, 5));
        });
    }

    private void line() {
        s.under("Promise 3: line");
        s.test("Adds a line, with one stop.", () -> {
            PermitWeave x = Offices.town();
            x.line(3, 5);
            s.is("no leg, no detour", x.detour(0), 0);
            s.is("no minutes", x.minutes(0), 0);
            s.is("its stop is the last one", Due.thrownBy(() -> x.stop(0, 3)), ARGUMENT);
            s.is("the next stop is the second", x.stop(0, 4), 2);
            Offices.dig(x, 0, 5, 10, 1);
            s.is("from the first stop", x.detour(0), 60);
            x.pass(1);
            s.is("its passengers", x.minutes(0), 300);
        });
        s.test("`first`: the stop, a junction", () -> {
            for (int junction : new int[] {0, 9}) {
                PermitWeave x = new PermitWeave();
                s.is("line(" + junction + ", 1)", x.line(junction, 1), 0);
                s.is("it is the stop", Due.thrownBy(() -> x.stop(0, junction)), ARGUMENT);
            }
            s.refuses(BOUNDS, "line(-1, 1)", Offices::town, x -> x.line(-1, 1));
            s.refuses(BOUNDS, "line(10, 1)", Offices::town, x -> x.line(10, 1));
        });
        s.test("`passengers`: 0 to 500, in each hour", () -> {
            for (int passengers : new int[] {0, 1, 499, 500}) {
                PermitWeave x = Offices.street(passengers);
                Offices.dig(x, 0, 0, 0, 40);
                x.pass(1);
                s.is("one hour of 3 minutes of " + passengers, x.minutes(0), 3L * passengers);
                x.pass(2);
                s.is("three of them", x.minutes(0), 9L * passengers);
            }
            s.refuses(ARGUMENT, "line(0, -1)", Offices::town, x -> x.line(0, -1));
            s.refuses(ARGUMENT, "line(0, 501)", Offices::town, x -> x.line(0, 501));
        });
        s.test("Returns its number.", () -> {
            PermitWeave x = new PermitWeave();
            for (int line = 0; line < 6; line++) {
                s.is("line", x.line(0, 500), line);
                int added = line;
                s.is("it is there", Due.answer(() -> x.detour(added)), "0");
            }
        });
    }

    private void lineIsRefused() {
        s.test("Throws `IndexOutOfBoundsException` if there is no such junction", () -> {
            s.refusesEach(BOUNDS, "line from", NO_JUNCTIONS, Offices::town, (x, wrong) -> x.line(wrong, 5));
            s.refusesEach(BOUNDS, "-1 passengers", NO_JUNCTIONS, Offices::town, (x, wrong) -> x.line(wrong, -1));
            s.refusesEach(BOUNDS, "501 passengers", NO_JUNCTIONS, Offices::town, (x, wrong) -> x.line(wrong, 501));
            s.refusesEach(BOUNDS, "the 7th", NO_JUNCTIONS, Offices::full, (x, wrong) -> x.line(wrong, 5));
            s.refusesEach(BOUNDS, "late", NO_JUNCTIONS, Offices::busy, (x, wrong) -> x.line(wrong, 5));
        });
        s.test("Throws `IllegalArgumentException` if passengers is out of its range", () -> {
            int[] noPassengers = Sentences.beside(0, 500);
            s.refusesEach(ARGUMENT, "passengers", noPassengers, Offices::town, (x, wrong) -> x.line(0, wrong));
            s.refusesEach(ARGUMENT, "the 7th", noPassengers, Offices::full, (x, wrong) -> x.line(0, wrong));
            s.refusesEach(ARGUMENT, "late", noPassengers, Offices::busy, (x, wrong) -> x.line(0, wrong));
        });
        s.test("Throws `IllegalStateException` if there are 6, or now is not the hour 0", () -> {
            PermitWeave x = new PermitWeave();
            for (int line = 0; line < 6; line++) {
                s.is("line", x.line(0, 1), line);
            }
            s.refuses(STATE, "the 7th", Offices::fullRoads, y -> y.line(0, 1));
            s.refuses(STATE, "the 7th of a full office", Offices::full, y -> y.line(9, 500));
            for (int hour : new int[] {1, 2, 100, 500, 5000}) {
                s.refuses(STATE, "at the hour " + hour, () -> Offices.townAt(hour), y -> y.line(0, 1));
            }
            s.is("at the hour 0", Offices.townAt(0).line(0, 1), 1);
        });
    }

    private void stop() {
        s.under("Promise 4: stop");
        s.test("Sets another stop, behind the last one.", () -> {
            PermitWeave x = Offices.town();
            x.line(0, 1);
            x.stop(0, 1);
            x.stop(0, 4);
            Offices.dig(x, 0, 5, 10, 1);
            s.is("the leg from 1 to 4 has no way", x.detour(0), 60);
            Offices.dig(x, 0, 0, 10, 1);
            s.is("and that from 0 to 1 goes round, 30 rather than 5", x.detour(0), 60 + 25);
        });
        s.test("`line`: its number", () -> {
            PermitWeave x = Offices.town();
            for (int line = 0; line < 6; line++) {
                x.line(line % 3, 1);
            }
            s.is("stop of the first line", x.stop(0, 4), 2);
            s.is("stop of the last line", x.stop(5, 4), 2);
            s.is("the lines between have none", x.stop(1, 4), 2);
            s.refuses(BOUNDS, "line -1", Offices::street, y -> y.stop(-1, 0));
            s.refuses(BOUNDS, "line 1 of one", Offices::street, y -> y.stop(1, 0));
            s.refuses(BOUNDS, "line 6 of six", Offices::fullRoads, y -> y.stop(6, 0));
        });
        s.test("`junction`: the stop", () -> {
            PermitWeave x = new PermitWeave();
            x.lane(0, 9, 5);
            x.line(5, 1);
            x.line(0, 1);
            s.is("stop at the junction 9", x.stop(1, 9), 2);
            s.is("stop at the junction 0", x.stop(1, 0), 3);
            s.refuses(BOUNDS, "junction -1", Offices::street, y -> y.stop(0, -1));
            s.refuses(BOUNDS, "junction 10", Offices::street, y -> y.stop(0, 10));
        });
        s.test("Returns how many stops it has then.", () -> {
            PermitWeave x = Offices.town();
            x.line(0, 1);
            x.line(0, 1);
            for (int stops = 2; stops <= 6; stops++) {
                s.is("stop", x.stop(0, (stops + 1) % 2), stops);
            }
        });
    }

    private void stopIsRefused() {
        s.test("Throws `IndexOutOfBoundsException` if there is no such line or junction", () -> {
            s.refusesEach(BOUNDS, "stop of line", NO_LINES_OF_THE_STREET, Offices::street,
                    (x, wrong) -> x.stop(wrong, 0));
            s.refusesEach(BOUNDS, "stop at", NO_JUNCTIONS, Offices::street, (x, wrong) -> x.stop(0, wrong));
            s.refusesEach(BOUNDS, "neither", NO_JUNCTIONS, Offices::street, (x, wrong) -> x.stop(wrong, wrong));
            s.refusesEach(BOUNDS, "the 7th stop of line", Sentences.beside(0, 5), Offices::full,
                    (x, wrong) -> x.stop(wrong, 0));
            s.refusesEach(BOUNDS, "the 7th stop at", NO_JUNCTIONS, Offices::full, (x, wrong) -> x.stop(0, wrong));
            s.refusesEach(BOUNDS, "late, at", NO_JUNCTIONS, Offices::busy, (x, wrong) -> x.stop(0, wrong));
            s.refusesEach(BOUNDS, "late, of line", Sentences.beside(0, 1), Offices::busy,
                    (x, wrong) -> x.stop(wrong, 0));
        });
        s.test("Throws `IllegalArgumentException` if it is the last stop already", () -> {
            s.refuses(ARGUMENT, "the first and only stop", () -> Offices.townAt(0), x -> x.stop(0, 0));
            s.refuses(ARGUMENT, "the second stop", Offices::street, x -> x.stop(0, 1));
            s.is("an earlier stop that is not the last", Offices.street().stop(0, 0), 3);
            s.refuses(ARGUMENT, "the 7th stop", Offices::fullRoads, x -> x.stop(0, 5));
            s.refuses(ARGUMENT, "where no way leads", () -> {
                PermitWeave x = Offices.town();
                x.line(9, 1);
                return x;
            }, x -> x.stop(0, 9));
            s.refuses(ARGUMENT, "late", Offices::busy, x -> x.stop(0, 1));
        });
        s.test("Throws `IllegalStateException` if it has 6 stops, no way over all lanes leads there from the last "
                + "one, or now is not the hour 0", () -> {
            PermitWeave x = Offices.street();
            for (int stops = 3; stops <= 6; stops++) {
                s.is("stop", x.stop(0, stops % 2 == 1 ? 0 : 1), stops);
            }
            s.refuses(STATE, "the 7th", Offices::fullRoads, y -> y.stop(0, 4));
            s.is("another line has room yet", twoLinesOneFull().stop(1, 1), 2);
            s.refuses(STATE, "no way leads there", Offices::street, y -> y.stop(0, 2));
            s.refuses(STATE, "no way leads to a lane apart", RoadSentences::apart, y -> y.stop(0, 9));
            s.is("a way leads over the lane there is", apart().stop(0, 1), 2);
            PermitWeave closed = Offices.ring();
            for (int lane = 0; lane < 4; lane++) {
                Offices.dig(closed, 0, lane, 0, 1);
            }
            s.is("the way leads over lanes that are closed", closed.stop(0, 3), 3);
            for (int hour : new int[] {1, 2, 100, 500, 5000}) {
                s.refuses(STATE, "at the hour " + hour, () -> Offices.townAt(hour), y -> y.stop(0, 1));
            }
            s.is("at the hour 0", Offices.townAt(0).stop(0, 1), 2);
        });
    }

    /** Two lanes that no way joins, and a line at the first. */
    private static PermitWeave apart() {
        PermitWeave x = new PermitWeave();
        x.lane(0, 1, 5);
        x.lane(8, 9, 5);
        x.line(0, 1);
        return x;
    }

    private static PermitWeave twoLinesOneFull() {
        PermitWeave x = Offices.street();
        for (int stops = 3; stops <= 6; stops++) {
            x.stop(0, stops % 2 == 1 ? 0 : 1);
        }
        x.line(0, 1);
        return x;
    }

    private void way() {
        s.under("Promise 5: way");
        s.test("Returns the minutes of the shortest way over lanes that are not closed.", () -> {
            PermitWeave x = Offices.town();
            s.is("none is closed", x.way(0, 3), 15);
            int first = Offices.dig(x, 0, 2, 0, 1);
            s.is("one is closed", x.way(0, 3), 17);
            int second = Offices.dig(x, 0, 4, 0, 1);
            s.is("two are closed", x.way(0, 3), 20);
            x.finish(first);
            x.finish(second);
            s.is("they are closed no more", x.way(0, 3), 15);
        });
        s.test("`from`: a junction", () -> {
            s.is("from 0", ends().way(0, 9), 5);
            s.is("from 9", ends().way(9, 0), 5);
            s.refuses(BOUNDS, "from -1", Offices::town, x -> x.way(-1, 0));
            s.refuses(BOUNDS, "from 10", Offices::town, x -> x.way(10, 0));
        });
        s.test("`to`: a junction, perhaps the same", () -> {
            for (int junction = 0; junction < 10; junction++) {
                s.is("to itself", Offices.town().way(junction, junction), 0);
                s.is("to itself without lanes", new PermitWeave().way(junction, junction), 0);
            }
            PermitWeave x = Offices.street();
            Offices.dig(x, 0, 0, 0, 1);
            Offices.dig(x, 0, 1, 0, 1);
            s.is("to itself when all is closed", x.way(0, 0), 0);
            s.refuses(BOUNDS, "to -1", Offices::town, y -> y.way(0, -1));
            s.refuses(BOUNDS, "to 10", Offices::town, y -> y.way(0, 10));
        });
        s.test("Returns the minutes; NONE if there is no way.", () -> {
            s.is("there is one", ends().way(0, 9), 5);
            s.is("there is none", ends().way(0, 8), NONE);
            PermitWeave x = ends();
            Offices.dig(x, 0, 0, 0, 1);
            s.is("its only lane is closed", x.way(0, 9), NONE);
            x.finish(0);
            s.is("and open again", x.way(0, 9), 5);
            PermitWeave row = new PermitWeave();
            for (int k = 0; k < 9; k++) {
                row.lane(9 - k, 8 - k, 30);
            }
            s.is("the longest that can be", row.way(0, 9), 270);
        });
        s.test("Throws `IndexOutOfBoundsException` if there is no such junction", () -> {
            s.refusesEach(BOUNDS, "way from", NO_JUNCTIONS, Offices::busy, (x, wrong) -> x.way(wrong, 0));
            s.refusesEach(BOUNDS, "way to", NO_JUNCTIONS, Offices::busy, (x, wrong) -> x.way(9, wrong));
            s.refusesEach(BOUNDS, "way from and to", NO_JUNCTIONS, Offices::busy, (x, wrong) -> x.way(wrong, wrong));
        });
    }

    /** One lane of 5 minutes, between the first and the last junction. */
    private static PermitWeave ends() {
        PermitWeave x = new PermitWeave();
        x.lane(0, 9, 5);
        return x;
    }

    private void isClosed() {
        s.under("Promise 6: isClosed");
        s.test("Tells whether a lane is closed.", () -> {
            PermitWeave x = Offices.street();
            s.is("nobody has dug", x.isClosed(0), false);
            Offices.dig(x, 0, 0, 10, 1);
            s.is("a dig", x.isClosed(0), true);
            x.finish(0);
            s.is("it is finished", x.isClosed(0), false);
        });
        s.test("`lane`: its number", () -> {
            for (int dug : new int[] {0, 23}) {
                PermitWeave x = Offices.fullRoads();
                Offices.dig(x, 0, dug, 0, 1);
                for (int lane = 0; lane < 24; lane++) {
                    s.is("isClosed(" + lane + ") with a dig on " + dug, x.isClosed(lane), lane == dug);
                }
            }
            s.refuses(BOUNDS, "lane -1", Offices::town, x -> x.isClosed(-1));
            s.refuses(BOUNDS, "lane 6 of six", Offices::town, x -> x.isClosed(6));
            s.refuses(BOUNDS, "lane 24 of 24", Offices::full, x -> x.isClosed(24));
        });
        s.test("Returns whether it is.", () -> {
            PermitWeave x = Offices.full();
            for (int lane = 0; lane < 24; lane++) {
                s.is("isClosed(" + lane + ")", x.isClosed(lane), lane < 10 && lane != 3 && lane != 7);
            }
        });
        s.test("Throws `IndexOutOfBoundsException` if there is no such lane", () -> {
            s.refusesEach(BOUNDS, "lane", NO_LANES_OF_THE_TOWN, Offices::town, (x, wrong) -> x.isClosed(wrong));
            s.refusesEach(BOUNDS, "lane of a full office", Sentences.beside(0, 23), Offices::full,
                    (x, wrong) -> x.isClosed(wrong));
            s.refuses(BOUNDS, "lane of none", PermitWeave::new, x -> x.isClosed(0));
        });
    }

    private void detour() {
        s.under("Promise 7: detour");
        s.test("Returns the detour of a line.", () -> {
            PermitWeave x = Offices.street();
            s.is("no lane is closed", x.detour(0), 0);
            Offices.dig(x, 0, 0, 0, 1);
            s.is("over the slower lane", x.detour(0), 3);
            x.finish(0);
            s.is("no lane is closed any more", x.detour(0), 0);
        });
        s.test("`line`: its number", () -> {
            PermitWeave x = Offices.streetOfSixLines();
            x.stop(5, 1);
            Offices.dig(x, 0, 0, 0, 1);
            s.is("the first line", x.detour(0), 3);
            s.is("a line of one stop", x.detour(4), 0);
            s.is("the last line, without passengers", x.detour(5), 6);
            s.refuses(BOUNDS, "line -1", Offices::street, y -> y.detour(-1));
            s.refuses(BOUNDS, "line 1 of one", Offices::street, y -> y.detour(1));
        });
        s.test("Returns the minutes.", () -> {
            PermitWeave x = Offices.dearest();
            s.is("of all legs", x.detour(0), 5 * 240);
            x.finish(1);
            s.is("31 rather than 1, five times", x.detour(0), 5 * 30);
        });
        s.test("Throws `IndexOutOfBoundsException` if there is no such line", () ->
            s.refusesLines("detour", (x, wrong) -> x.detour(wrong)));
    }

    private void minutes() {
        s.under("Promise 8: minutes");
        s.test("Returns the passengers' minutes of a line so far.", () -> {
            PermitWeave x = Offices.street();
            s.is("at first", x.minutes(0), 0);
            Offices.dig(x, 0, 0, 3, 5);
            s.is("no hour has passed", x.minutes(0), 0);
            x.pass(1);
            s.is("one hour", x.minutes(0), 30);
            x.pass(4);
            s.is("five hours", x.minutes(0), 150);
            x.finish(0);
            x.pass(200);
            s.is("no more, no less", x.minutes(0), 150);
        });
        s.test("`line`: its number", () -> {
            PermitWeave x = Offices.busy();
            s.is("the first", x.minutes(0), 10 * (3 * 3 + 2 * 60));
            s.is("the last", x.minutes(1), 0);
            s.refuses(BOUNDS, "line -1", Offices::busy, y -> y.minutes(-1));
            s.refuses(BOUNDS, "line 2 of two", Offices::busy, y -> y.minutes(2));
        });
        s.test("Returns the minutes.", () -> {
            PermitWeave x = Offices.dearest();
            Offices.passTo(x, 0, 5000);
            s.is("the most there can be, above what an int holds", x.minutes(0), 1200L * 500 * 5000);
            s.is("of a line without passengers", emptyStreetDug().minutes(0), 0);
        });
        s.test("Throws `IndexOutOfBoundsException` if there is no such line", () ->
            s.refusesLines("minutes", (x, wrong) -> x.minutes(wrong)));
    }

    private static PermitWeave emptyStreetDug() {
        PermitWeave x = Offices.street(0);
        Offices.dig(x, 0, 0, 50, 1);
        x.pass(10);
        return x;
    }

    private void minutesAnew() {
        s.under("Promise 9: minutesAnew");
        s.test("Returns the same, found anew hour by hour from when each permit was begun and finished.", () -> {
            PermitWeave x = Offices.street();
            s.is("at first", x.minutesAnew(0), 0);
            int first = Offices.dig(x, 0, 0, 0, 2);
            s.is("no hour has passed", x.minutesAnew(0), 0);
            x.pass(2);
            int second = Offices.dig(x, 1, 1, 2, 5);
            s.is("begun now, no hour yet", x.minutesAnew(0), 60);
            x.pass(1);
            x.finish(first);
            s.is("finished now, the hour before counts", x.minutesAnew(0), 660);
            x.finish(Offices.dig(x, 2, 0, 9, 1));
            s.is("begun and finished in one hour", x.minutesAnew(0), 660);
            x.pass(7);
            x.finish(second);
            x.pass(200);
            s.is("none is OPEN", x.minutesAnew(0), 660);
            s.is("the same", x.minutes(0), 660);
            s.is("the way is that of now afterwards", x.way(0, 1), 4);
            fortyDigs();
        });
        s.test("`line`: its number", () -> {
            s.is("the first", Offices.busy().minutesAnew(0), 10 * (3 * 3 + 2 * 60));
            s.is("the last", Offices.busy().minutesAnew(1), 0);
            s.refuses(BOUNDS, "line -1", Offices::busy, y -> y.minutesAnew(-1));
            s.refuses(BOUNDS, "line 2 of two", Offices::busy, y -> y.minutesAnew(2));
        });
        s.test("Returns the minutes.", () -> {
            PermitWeave x = Offices.dearest();
            Offices.passTo(x, 0, 5000);
            s.is("the most there can be, above what an int holds", x.minutesAnew(0), 1200L * 500 * 5000);
            s.is("of a line without passengers", emptyStreetDug().minutesAnew(0), 0);
        });
        s.test("Throws `IndexOutOfBoundsException` if there is no such line", () ->
            s.refusesLines("minutesAnew", (x, wrong) -> x.minutesAnew(wrong)));
    }

    /** As many begins and finishes, each in an hour of its own, as there can be. */
    private void fortyDigs() {
        PermitWeave x = Offices.street();
        x.pass(1);
        for (int k = 0; k < 40; k++) {
            int permit = Offices.dig(x, 0, 0, 4900, 1);
            x.pass(2);
            x.finish(permit);
            x.pass(1);
        }
        s.is("40 digs of 2 hours each", x.minutesAnew(0), 40 * 60);
        s.is("as they were counted", x.minutes(0), 40 * 60);
    }
}
