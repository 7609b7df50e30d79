import java.util.ArrayList;
import java.util.LinkedHashMap;
import java.util.LinkedHashSet;
import java.util.List;
import java.util.Map;
import java.util.Set;
import java.util.function.Consumer;
import java.util.function.Function;
import java.util.function.ObjIntConsumer;
import java.util.function.Supplier;

/** The sentences of the document, each with a test of its own, told by the heading and the words. */
final class Sentences {
    static final String BOUNDS = "IndexOutOfBoundsException";
    static final String ARGUMENT = "IllegalArgumentException";
    static final String STATE = "IllegalStateException";

    private final Due due = new Due("SentencesTest");
    private final Map<String, List<String>> quoted = new LinkedHashMap<>();
    private final Set<String> broken = new LinkedHashSet<>();
    private String heading = "";
    private String words = "";

    /** The heading of the document under which the next sentences stand. */
    void under(String next) {
        heading = next;
    }

    void test(String sentence, Runnable test) {
        withoutEdge(sentence);
        int before = due.wrong();
        try {
            test.run();
        } catch (RuntimeException e) {
            is("the test ended with", e.toString(), "nothing thrown");
        }
        if (due.wrong() > before) {
            broken.add(heading + " | " + words);
        }
    }

    /** A sentence that names no boundary case. */
    void withoutEdge(String sentence) {
        words = sentence;
        quoted.computeIfAbsent(heading, none -> new ArrayList<>()).add(sentence);
    }

    void is(String what, long got, long want) {
        due.is(named(what), got, want);
    }

    void is(String what, boolean got, boolean want) {
        due.is(named(what), got, want);
    }

    void is(String what, String got, String want) {
        due.is(named(what), got, want);
    }

    private String named(String what) {
        return heading + ", \"" + words + "\": " + what;
    }

    /** The call throws what is due, and leaves the office as one that it was never asked of. */
    void refuses(String thrown, String what, Supplier<PermitWeave> office, Consumer<PermitWeave> call) {
        PermitWeave roads = office.get();
        is(what + " throws", Due.thrownBy(() -> call.accept(roads)), thrown);
        is(what + " and the roads", Views.ofRoads(roads), Views.ofRoads(office.get()));
        unchanged(what + " and the permits", office, call, Views::ofPermits);
        unchanged(what + " and what follows", office, call, Views::ofWhatFollows);
    }

    private void unchanged(String what, Supplier<PermitWeave> office, Consumer<PermitWeave> call,
            Function<PermitWeave, String> view) {
        PermitWeave x = office.get();
        Due.thrownBy(() -> call.accept(x));
        is(what, view.apply(x), view.apply(office.get()));
    }

    void refusesEach(String thrown, String what, int[] wrong, Supplier<PermitWeave> office,
            ObjIntConsumer<PermitWeave> call) {
        for (int number : wrong) {
            refuses(thrown, what + " " + number, office, x -> call.accept(x, number));
        }
    }

    /** Of no permit yet, beside the numbers of eight, and beside those of all that there can be. */
    void refusesPermits(String call, ObjIntConsumer<PermitWeave> asked) {
        refuses(BOUNDS, call + " of none", Offices::town, x -> asked.accept(x, 0));
        refusesEach(BOUNDS, call + " of permit", beside(0, 7), Offices::busy, asked);
        refusesEach(BOUNDS, call + " of permit, full", beside(0, 39), Offices::full, asked);
    }

    void refusesLines(String call, ObjIntConsumer<PermitWeave> asked) {
        refuses(BOUNDS, call + " of none", Offices::town, x -> asked.accept(x, 0));
        refusesEach(BOUNDS, call + " of line, of one", beside(0, 0), Offices::street, asked);
        refusesEach(BOUNDS, call + " of line, of two", beside(0, 1), Offices::busy, asked);
        refusesEach(BOUNDS, call + " of line, full", beside(0, 5), Offices::full, asked);
    }

    /** The first numbers beyond both ends of a range, and the last that there are. */
    static int[] beside(int least, int most) {
        return new int[] {Integer.MIN_VALUE, least - 1, most + 1, Integer.MAX_VALUE};
    }

    List<String> quotedUnder(String title) {
        return quoted.getOrDefault(title, List.of());
    }

    Set<String> headings() {
        return quoted.keySet();
    }

    Set<String> broken() {
        return broken;
    }

    Due due() {
        return due;
    }
}
