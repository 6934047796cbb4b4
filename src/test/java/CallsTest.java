import java.util.Set;

/** What the document says of all calls: 512 of them are answered, and a refused one is a call like others. */
public final class CallsTest {
    private static final int MIN = Integer.MIN_VALUE;
    private static final int MAX = Integer.MAX_VALUE;

    /** Each call of the face on Run.SOME_OF_ALL, answered and, where the face has an exception, refused. */
    private static final String[] ANSWERS = {
        "addCurve(0) -> 2", "addCurve(400) -> throws.IllegalArgumentException",
        "addCurve(10) -> throws.IllegalStateException", "addPoint(1, 5, 50) -> 2",
        "addPoint(2, 5, 50) -> throws.IndexOutOfBoundsException",
        "addPoint(1, 2001, 50) -> throws.IllegalArgumentException",
        "addPoint(1, 5, 5) -> throws.IllegalStateException", "flowBy(0, 301) -> 9040",
        "flowBy(2, 0) -> throws.IndexOutOfBoundsException", "flowBy(0, 4001) -> throws.IllegalArgumentException",
        "flowBy(1, 0) -> throws.IllegalStateException", "stageBy(0, 1001) -> 101",
        "stageBy(2, 0) -> throws.IndexOutOfBoundsException", "stageBy(0, -1) -> throws.IllegalArgumentException",
        "stageBy(1, 0) -> throws.IllegalStateException", "curveOf(399) -> 1",
        "curveOf(400) -> throws.IllegalArgumentException", "setShift(55, 9) -> 5",
        "setShift(55, 201) -> throws.IllegalArgumentException", "shift(55) -> 5",
        "shift(-1) -> throws.IllegalArgumentException", "read(100, 10, 5, 1) -> 5",
        "read(399, 2, 5, 1) -> throws.IllegalArgumentException", "erase(100, 10) -> 5",
        "erase(400, 1) -> throws.IllegalArgumentException", "freeze(45, 10, true) -> 5",
        "freeze(0, 401, true) -> throws.IllegalArgumentException", "setRules(0, 0) -> 70",
        "setRules(101, 0) -> throws.IllegalArgumentException", "state(40) -> 2",
        "state(400) -> throws.IllegalArgumentException", "flow(40) -> 1960", "flow(31) -> 1720",
        "flow(400) -> throws.IllegalArgumentException", "sum(0, 399, 0) -> 95",
        "sum(0, 399, 5) -> throws.IndexOutOfBoundsException",
        "sum(1, 0, 0) -> throws.IllegalArgumentException", "mean(10, 10) -> 550.0",
        "mean(0, 400) -> throws.IllegalArgumentException", "reached(1) -> 8480",
        "reached(0) -> throws.IllegalArgumentException", "peaks(0, 100) -> 1",
        "peaks(0, 101) -> throws.IllegalArgumentException", "spell(551) -> 1",
        "spell(-1) -> throws.IllegalArgumentException", "measure(0, 0, 0) -> 3",
        "measure(0, 0, -1) -> throws.IllegalArgumentException", "deviation(0) -> -823",
        "deviation(2) -> throws.IndexOutOfBoundsException", "deviation(1) -> throws.IllegalStateException",
        "wouldShift(0) -> 42", "wouldShift(2) -> throws.IndexOutOfBoundsException",
        "wouldShift(1) -> throws.IllegalStateException", "count(2) -> 96",
        "count(5) -> throws.IndexOutOfBoundsException"};

    public static void main(String[] args) {
        lastCallsAnswerAsFirstOnes();
        eachOf512CallsAnswers();
        refusedCallsAreCallsToo();
        fullBookAnswers();
        callsBehindTheLastThrowNothingElse();
        wildArgumentsThrowNothingElse();
        Run.finish();
    }

    /** A run of so many calls that comes back to the book it began with, Run.SOME_OF_ALL. */
    private static Run afterCalls(String title, int calls) {
        Run run = new Run(title).rows(Run.SOME_OF_ALL);
        String[] toAndFro = {"flow(10) -> 550", "read(300, 3, 5, 5) -> 0", "reached(1) -> 8480",
            "erase(299, 5) -> 3", "freeze(300, 2, true) -> 2", "freeze(299, 9, false) -> 2",
            "addPoint(0, 100, 1) -> throws.IllegalStateException", "setRules(1, 1) -> 70",
            "setRules(70, 6) -> 1"};
        while (run.calls() + toAndFro.length <= calls) {
            run.rows(toAndFro);
        }
        while (run.calls() < calls) {
            run.rows("count(1) -> 2");
        }
        return run;
    }

    private static void lastCallsAnswerAsFirstOnes() {
        for (String row : ANSWERS) {
            new Run("calls: the first one behind some of all").rows(Run.SOME_OF_ALL).rows(row);
            afterCalls("calls: the 511th", Run.MOST_CALLS - 2).rows(row).rows("curveOf(200) -> 1");
            afterCalls("calls: the 512th, last one", Run.MOST_CALLS - 1).rows(row);
        }
        long digest = new Run("calls: digest").rows(Run.SOME_OF_ALL).ask("digest()");
        afterCalls("calls: the 511th", Run.MOST_CALLS - 2).due("digest()", digest).due("digest()", digest);
    }

    private static void eachOf512CallsAnswers() {
        Run reads = new Run("calls: 512 of read");
        Run rules = new Run("calls: 512 of setRules").rows("setRules(0, 5) -> 60");
        Run shifts = new Run("calls: 512 of setShift").rows("setShift(399, 0) -> 0");
        Run digests = new Run("calls: 512 of digest");
        long digest = digests.ask("digest()");
        for (int i = 0; i < Run.MOST_CALLS - 1; i++) {
            reads.due("read(" + i % 400 + ", 1, " + i + ", 0)", i < 400 ? 0 : 1);
            rules.due("setRules(" + (i + 1) % 101 + ", " + i % 61 + ")", i % 101);
            shifts.due("setShift(399, " + (i + 1) % 201 + ")", i % 201);
            digests.due("digest()", digest);
        }
        reads.rows("count(2) -> 400");
    }

    private static void refusedCallsAreCallsToo() {
        Run curves = new Run("calls: 512 of addCurve, of which 6 are taken");
        Run points = new Run("calls: 511 of addPoint, of which 12 are taken").rows("addCurve(0) -> 0");
        Run measurements = new Run("calls: 512 of measure, of which 40 are taken");
        String refused = "throws.IllegalStateException";
        for (int i = 0; i < Run.MOST_CALLS - 1; i++) {
            curves.due("addCurve(" + i % 400 + ")", i < 6 ? i : refused);
            points.due("addPoint(0, " + i + ", " + i + ")", i < 12 ? i + 1 : refused);
            measurements.due("measure(" + i % 400 + ", 0, 0)", i < 40 ? i + 1 : refused);
        }
        curves.rows("count(0) -> 6");
        measurements.rows("count(4) -> 40");
        Run wrong = new Run("calls: 510 that are refused").rows("read(7, 1, 5, 0)");
        for (int i = 0; i < Run.MOST_CALLS - 2; i++) {
            wrong.rows(i % 2 == 0 ? "erase(7, 394) -> throws.IllegalArgumentException"
                    : "read(6, 2, 2000, 1) -> throws.IllegalArgumentException");
        }
        wrong.rows("count(2) -> 1");
    }

    private static void fullBookAnswers() {
        new Run("calls: a book with as much of all as there may be").rows(Run.asMuchAsThereMayBe()).rows(
                "count(0) -> 6", "count(1) -> 20", "count(2) -> 400", "count(3) -> 400", "count(4) -> 40",
                "curveOf(0) -> 5", "curveOf(65) -> 5", "curveOf(66) -> 4", "curveOf(399) -> 0",
                "shift(0) -> 180", "shift(21) -> 160", "shift(399) -> -200", "flow(0) -> 0",
                "flow(399) -> 5237", "sum(0, 399, 0) -> 400", "deviation(0) -> -6600", "deviation(39) -> -1005",
                "wouldShift(0) -> 400", "reached(100) -> 0", "spell(1) -> 48")
                .illegalState("addCurve(1)", "addPoint(0, 2000, 1000000)", "addPoint(5, 2000, 1000000)",
                        "setShift(1, 0)", "measure(0, 0, 0)", "wouldShift(39)");
    }

    private static final Set<String> THROWN = Set.of("throws.IllegalArgumentException",
            "throws.IllegalStateException", "throws.IndexOutOfBoundsException");

    /** What they answer is free; but no call may throw by itself, whenever it comes. */
    private static void callsBehindTheLastThrowNothingElse() {
        GaugeBook book = new GaugeBook();
        for (String row : Run.SOME_OF_ALL) {
            callOf(row).answer(book);
        }
        for (int call = Run.SOME_OF_ALL.length; call < 3 * Run.MOST_CALLS; call++) {
            demandOwnAnswer(book, ANSWERS[call % ANSWERS.length]);
        }
    }

    private static Call callOf(String row) {
        return new Call(row.substring(0, row.indexOf(" ->")));
    }

    private static void demandOwnAnswer(GaugeBook book, String row) {
        String answer = callOf(row).answer(book);
        Run.demand(row + ": answered " + answer, !answer.startsWith("throws.") || THROWN.contains(answer));
    }

    private static void wildArgumentsThrowNothingElse() {
        int[] wild = {MIN, MIN + 1, -9999, -1, 0, 1, 399, 400, MAX - 1, MAX};
        String[] ahead = {"addCurve(", "curveOf(", "shift(", "state(", "flow(", "reached(", "spell(", "deviation(",
            "wouldShift(", "count("};
        for (String call : ahead) {
            for (int argument : wild) {
                demandOwnAnswer(new GaugeBook(), call + argument + ") -> free");
            }
        }
        String[] pairs = {"flowBy(", "stageBy(", "setShift(", "erase(", "setRules(", "mean(", "peaks("};
        for (int first : wild) {
            for (int second : wild) {
                String both = first + ", " + second;
                for (String call : pairs) {
                    demandOwnAnswer(new GaugeBook(), call + both + ") -> free");
                }
                wildThirds(both, wild);
            }
        }
    }

    private static void wildThirds(String both, int[] wild) {
        demandOwnAnswer(new GaugeBook(), "freeze(" + both + ", true) -> free");
        for (int third : wild) {
            String three = both + ", " + third;
            demandOwnAnswer(new GaugeBook(), "addPoint(" + three + ") -> free");
            demandOwnAnswer(new GaugeBook(), "sum(" + three + ") -> free");
            demandOwnAnswer(new GaugeBook(), "measure(" + three + ") -> free");
            for (int fourth : wild) {
                demandOwnAnswer(new GaugeBook(), "read(" + three + ", " + fourth + ") -> free");
            }
        }
    }
}
