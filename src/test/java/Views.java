import java.util.function.IntConsumer;

/**
 * All that can be asked of an object, as texts. An object answers 512 calls only, so there are several views, and
 * each leaves 150 calls for what was done before.
 */
final class Views {
    private Views() {
    }

    private static void put(StringBuilder view, String answer) {
        view.append(answer).append(' ');
    }

    private static boolean isThere(IntConsumer asked, int number) {
        return Due.thrownBy(() -> asked.accept(number)).equals("nothing");
    }

    static String ofRoads(PermitWeave x) {
        StringBuilder view = new StringBuilder();
        for (int k = 0; k < 90; k++) {
            int from = k % 10;
            int to = k / 10 + 1;
            if (from < to) {
                put(view, Due.answer(() -> x.way(from, to)));
            }
        }
        for (int k = 0; k < 24 && isThere(x::isClosed, k); k++) {
            int lane = k;
            put(view, "\nlane " + lane + ": " + Due.answer(() -> x.isClosed(lane) ? 1 : 0));
            for (int season = 0; season <= 10; season++) {
                int asked = season;
                put(view, Due.answer(() -> x.openings(lane, asked)));
            }
        }
        put(view, linesOf(x));
        return view.toString();
    }

    static String ofPermits(PermitWeave x) {
        StringBuilder view = new StringBuilder();
        for (int k = 0; k < 40 && isThere(x::state, k); k++) {
            int permit = k;
            put(view, "\npermit " + permit + ": " + Due.answer(() -> x.state(permit)));
            put(view, Due.answer(() -> x.cause(permit)));
            put(view, Due.answer(() -> x.from(permit)));
            put(view, Due.answer(() -> x.end(permit)));
            put(view, Due.answer(() -> x.together(permit)));
            put(view, Due.answer(() -> x.fee(permit)));
            put(view, Due.answer(() -> x.fine(permit)));
        }
        for (int applicant = 0; applicant < 6; applicant++) {
            put(view, "\napplicant " + applicant + ": " + x.points(applicant) + ' ' + x.fines(applicant));
        }
        return view.toString();
    }

    /** Goes on with the object, as the stops, the counts and the hour show by that alone. */
    static String ofWhatFollows(PermitWeave x) {
        StringBuilder view = new StringBuilder();
        for (int k = 0; k < 12; k++) {
            int line = k / 2;
            int junction = k % 2;
            put(view, Due.answer(() -> x.stop(line, junction)));
        }
        put(view, Due.answer(() -> x.lane(0, 1, 1)));
        put(view, Due.answer(() -> x.line(0, 1)));
        put(view, Due.answer(() -> x.apply(0, 0, 4900, 1, PermitWeave.NONE, true)));
        for (int k = 0; k < 40 && isThere(x::state, k); k++) {
            int permit = k;
            put(view, Due.answer(() -> x.begin(permit)));
        }
        put(view, linesOf(x));
        for (int k = 0; k < 6 && isThere(x::detour, k); k++) {
            int line = k;
            put(view, Due.answer(() -> x.complain(line)));
        }
        put(view, Due.answer(() -> x.pass(1)));
        for (int k = 0; k < 40 && isThere(x::state, k); k++) {
            int permit = k;
            put(view, Due.answer(() -> x.finish(permit)));
        }
        put(view, Due.answer(() -> x.pass(200)));
        put(view, linesOf(x));
        for (int applicant = 0; applicant < 6; applicant++) {
            put(view, x.points(applicant) + " " + x.fines(applicant));
        }
        return view.toString();
    }

    private static String linesOf(PermitWeave x) {
        StringBuilder view = new StringBuilder();
        for (int k = 0; k < 6 && isThere(x::detour, k); k++) {
            int line = k;
            put(view, "\nline " + line + ": " + Due.answer(() -> x.detour(line)));
            put(view, Due.answer(() -> x.minutes(line)));
            put(view, Due.answer(() -> x.minutesAnew(line)));
        }
        return view.toString();
    }
}
