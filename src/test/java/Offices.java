/** The offices from which the tests start. Each call makes the same one anew. */
final class Offices {
    private static final int NONE = PermitWeave.NONE;

    private Offices() {
    }

    /**
     * Lanes 0-1 (lane 0), 1-2 (lane 1), 2-3 (lane 2) of 5 minutes, 0-3 (lane 3) of 20, 1-3 (lane 4) of 12,
     * 3-4 (lane 5) of 1.
     */
    static PermitWeave town() {
        PermitWeave x = new PermitWeave();
        x.lane(0, 1, 5);
        x.lane(1, 2, 5);
        x.lane(2, 3, 5);
        x.lane(0, 3, 20);
        x.lane(1, 3, 12);
        x.lane(3, 4, 1);
        return x;
    }

    /** Two lanes between the same two junctions, of 4 and 7 minutes, and a line over them with 10 passengers. */
    static PermitWeave street() {
        return street(10);
    }

    static PermitWeave street(int passengers) {
        PermitWeave x = new PermitWeave();
        x.lane(0, 1, 4);
        x.lane(0, 1, 7);
        x.line(0, passengers);
        x.stop(0, 1);
        return x;
    }

    /** The street with four lines of one stop more, and a last one back over it, without passengers. */
    static PermitWeave streetOfSixLines() {
        PermitWeave x = street();
        for (int line = 1; line < 5; line++) {
            x.line(0, 1);
        }
        x.line(1, 0);
        x.stop(5, 0);
        return x;
    }

    /** A lane of 1 minute with a line of 10 passengers over it, and 90 minutes round it. */
    static PermitWeave ring() {
        return ring(10);
    }

    static PermitWeave ring(int passengers) {
        PermitWeave x = new PermitWeave();
        x.lane(0, 1, 1);
        x.lane(1, 2, 30);
        x.lane(2, 3, 30);
        x.lane(3, 0, 30);
        x.line(0, passengers);
        x.stop(0, 1);
        return x;
    }

    /** A line of 500 passengers whose five legs take 240 minutes more each while permits 0 and 1 are OPEN. */
    static PermitWeave dearest() {
        PermitWeave x = new PermitWeave();
        x.lane(0, 9, 1);
        for (int k = 0; k < 8; k++) {
            x.lane(k, k + 1, 30);
        }
        x.line(0, 500);
        for (int k = 1; k < 6; k++) {
            x.stop(0, k % 2 == 0 ? 0 : 9);
        }
        x.lane(8, 9, 1);
        x.lane(0, 8, 30);
        dig(x, 0, 0, 0, 1);
        dig(x, 0, 10, 0, 1);
        return x;
    }

    /** 24 lanes, 6 lines of 6 stops each, and 40 permits: some OPEN, some DONE, some GRANTED, some VOID. */
    static PermitWeave full() {
        PermitWeave x = fullRoads();
        for (int permit = 0; permit < 40; permit++) {
            x.apply(permit % 6, permit % 24, 4900, 40, NONE, true);
        }
        for (int permit = 0; permit < 10; permit++) {
            x.begin(permit);
        }
        x.finish(3);
        x.finish(7);
        x.withdraw(20);
        return x;
    }

    /** 24 lanes and 6 lines of 6 stops each. */
    static PermitWeave fullRoads() {
        PermitWeave x = new PermitWeave();
        for (int lane = 0; lane < 24; lane++) {
            x.lane(lane % 10, (lane + 1 + lane / 10) % 10, 1 + lane);
        }
        for (int line = 0; line < 6; line++) {
            x.line(line, 500);
            for (int stop = 1; stop < 6; stop++) {
                x.stop(line, (line + 3 * stop) % 10);
            }
        }
        return x;
    }

    /**
     * At the hour 6, with three lanes and two lines: permit 0 is DONE, 1 and 7 are OPEN, 2 and 3 GRANTED and put
     * together, 4 REFUSED, 5 and 6 VOID; and there are points and fines.
     */
    static PermitWeave busy() {
        PermitWeave x = street();
        x.lane(1, 2, 30);
        x.line(2, 20);
        x.stop(1, 1);
        x.apply(0, 0, 10, 5, NONE, false);
        x.apply(1, 1, 15, 5, 0, false);
        x.apply(2, 2, 40, 5, NONE, false);
        x.apply(3, 2, 44, 5, 0, false);
        x.apply(4, 2, 60, 5, NONE, false);
        x.apply(5, 0, 600, 5, NONE, false);
        x.apply(5, 1, 700, 5, 5, false);
        x.withdraw(5);
        x.begin(0);
        x.pass(3);
        x.finish(0);
        x.pass(1);
        x.begin(1);
        dig(x, 4, 0, 50, 1);
        x.pass(2);
        return x;
    }

    /** The town when now is an hour. */
    static PermitWeave townAt(int hour) {
        PermitWeave x = town();
        x.line(0, 10);
        passTo(x, 0, hour);
        return x;
    }

    static void passTo(PermitWeave x, int now, int hour) {
        for (int k = now; k < hour; k += 200) {
            x.pass(Math.min(200, hour - k));
        }
    }

    /** Begins to dig at once, whatever the hours. */
    static int dig(PermitWeave x, int applicant, int lane, int from, int hours) {
        int permit = x.apply(applicant, lane, from, hours, NONE, true);
        x.begin(permit);
        return permit;
    }
}
