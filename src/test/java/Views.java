/** All that can be asked of an object without changing it, as one text. */
final class Views {
    private Views() {
    }

    static String of(PermitWeave x, int lanes, int lines, int permits) {
        StringBuilder view = new StringBuilder();
        for (int from = 0; from < 10; from++) {
            for (int to = 0; to < 10; to++) {
                view.append(x.way(from, to)).append(' ');
            }
        }
        for (int lane = 0; lane < lanes; lane++) {
            view.append("\nlane ").append(lane).append(": ").append(x.isClosed(lane));
            for (int season = 0; season <= 10; season++) {
                view.append(' ').append(x.openings(lane, season));
            }
        }
        for (int line = 0; line < lines; line++) {
            view.append("\nline ").append(line).append(": ").append(x.detour(line)).append(' ')
                    .append(x.minutes(line)).append(' ').append(x.minutesAnew(line));
        }
        for (int permit = 0; permit < permits; permit++) {
            view.append("\npermit ").append(permit).append(": ").append(x.state(permit)).append(' ')
                    .append(x.cause(permit)).append(' ').append(x.from(permit)).append(' ')
                    .append(x.end(permit)).append(' ').append(x.together(permit)).append(' ')
                    .append(x.fee(permit)).append(' ').append(x.fine(permit));
        }
        for (int applicant = 0; applicant < 6; applicant++) {
            view.append("\napplicant ").append(applicant).append(": ").append(x.points(applicant)).append(' ')
                    .append(x.fines(applicant));
        }
        return view.toString();
    }
}
