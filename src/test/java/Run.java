import java.util.ArrayList;
import java.util.List;

/**
 * A run of calls on a new book, each held against the answer that is due. What is wrong is printed;
 * finish() ends with exit code 1 if anything was.
 */
final class Run {
    static final int MOST_CALLS = 512;
    private static final int MOST_COMPLAINTS = 100;

    /** A book with something of everything, so that a refused call has much that it could change. */
    static final String[] SOME_OF_ALL = {
        "addCurve(10) -> 0", "addPoint(0, 0, 0) -> 1", "addPoint(0, 100, 1000) -> 2",
        "addPoint(0, 300, 9000) -> 3", "addCurve(200) -> 1", "addPoint(1, -400, 5) -> 1",
        "setShift(50, -20) -> 0", "setShift(60, 30) -> -20", "read(5, 100, 20, 3) -> 0",
        "erase(30, 4) -> 4", "freeze(40, 10, true) -> 10", "setRules(70, 6) -> 60",
        "measure(55, 120, 777) -> 1", "measure(250, 0, 0) -> 2"};

    /** A curve from day 0 on whose flow is the stage that counts, from stage 0 on. */
    static final String[] FLOW_IS_STAGE = {"addCurve(0) -> 0", "addPoint(0, 0, 0) -> 1", "addPoint(0, 1, 1) -> 2"};

    private static int asked;
    private static int wrong;

    private final String title;
    private final GaugeBook book = new GaugeBook();
    private final List<Call> changes = new ArrayList<>();
    private int calls;

    Run(String title) {
        this.title = title;
    }

    /** Six curves of 12 points, 20 shifts, 40 measurements, and a stage and ice on every day. */
    static String[] asMuchAsThereMayBe() {
        List<String> rows = new ArrayList<>();
        for (int curve = 0; curve < 6; curve++) {
            rows.add("addCurve(" + (5 - curve) * 66 + ") -> " + curve);
            for (int point = 0; point < 12; point++) {
                rows.add("addPoint(" + curve + ", " + (point * 200 - 400) + ", " + point * (curve + 1) * 1000
                        + ") -> " + (point + 1));
            }
        }
        for (int i = 0; i < 20; i++) {
            rows.add("setShift(" + (399 - i * 21) + ", " + (i * 20 - 200) + ")");
        }
        for (int i = 0; i < 40; i++) {
            rows.add("measure(" + i * 10 + ", " + i * 50 + ", " + i * 300 + ") -> " + (i + 1));
        }
        rows.add("read(0, 400, -500, 5) -> 0");
        rows.add("freeze(0, 400, true) -> 400");
        rows.add("setRules(50, 60) -> 60");
        return rows.toArray(new String[0]);
    }

    /** A run on a book whose days, from day 0 on, have these flows; -1 for a day without one. No gap is filled. */
    static Run withFlows(String title, int... flows) {
        Run run = new Run(title).rows(FLOW_IS_STAGE).rows("setRules(60, 0)");
        for (int day = 0; day < flows.length; day++) {
            if (flows[day] >= 0) {
                run.rows("read(" + day + ", 1, " + flows[day] + ", 0)");
            }
        }
        return run;
    }

    /** Rows like "addCurve(0) -> 0"; a row without an arrow only has to throw nothing. */
    Run rows(String... rows) {
        for (String row : rows) {
            int arrow = row.indexOf("->");
            if (arrow < 0) {
                made(row.trim());
            } else {
                due(row.substring(0, arrow).trim(), row.substring(arrow + 2).trim());
            }
        }
        return this;
    }

    /** The call answers this. */
    Run due(String call, Object answer) {
        compare(call, make(new Call(call)), String.valueOf(answer));
        return this;
    }

    /** Each of the calls throws this, and changes nothing that later calls tell. */
    Run outOfBounds(String... refused) {
        return refused("throws.IndexOutOfBoundsException", refused);
    }

    Run illegalArgument(String... refused) {
        return refused("throws.IllegalArgumentException", refused);
    }

    Run illegalState(String... refused) {
        return refused("throws.IllegalStateException", refused);
    }

    /** What the call answers, which has to be a whole number. */
    long ask(String call) {
        String answer = made(call);
        return answer.startsWith("throws.") ? Long.MIN_VALUE : Long.parseLong(answer);
    }

    int calls() {
        return calls;
    }

    /** Each of the questions changes nothing that later calls tell. */
    Run changesNothing(String... questions) {
        for (String question : questions) {
            demandNoChange(new Call(question));
        }
        return this;
    }

    static void demand(String complaint, boolean holds) {
        asked++;
        if (!holds) {
            tell(complaint);
        }
    }

    static void finish() {
        System.out.println(asked + " checks, " + wrong + " wrong");
        if (wrong != 0) {
            System.exit(1);
        }
    }

    private Run refused(String exception, String... refused) {
        for (String text : refused) {
            Call call = new Call(text);
            compare(text, make(call), exception);
            demandNoChange(call);
        }
        return this;
    }

    private String made(String text) {
        String answer = make(new Call(text));
        asked++;
        if (answer.startsWith("throws.")) {
            complain(text + " answered " + answer + ", which is not due");
        }
        return answer;
    }

    private String make(Call call) {
        calls++;
        if (calls > MOST_CALLS) {
            throw new IllegalStateException("more than " + MOST_CALLS + " calls in: " + title);
        }
        String answer = call.answer(book);
        if (call.mayChange() && !answer.startsWith("throws.")) {
            changes.add(call);
        }
        return answer;
    }

    private void compare(String call, String answer, String due) {
        asked++;
        if (!answer.equals(due)) {
            complain(call + " answered " + answer + ", due is " + due);
        }
    }

    private void demandNoChange(Call call) {
        asked++;
        String difference = Later.difference(changes, call);
        if (difference != null) {
            complain(call.text() + " changes the book: " + difference);
        }
    }

    private void complain(String text) {
        tell(title + ": call " + calls + ": " + text);
    }

    private static void tell(String complaint) {
        wrong++;
        if (wrong <= MOST_COMPLAINTS) {
            System.out.println(complaint);
        }
    }
}
