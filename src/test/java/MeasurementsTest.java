import java.math.BigInteger;
import java.util.Arrays;

/** Promises 20 to 24: measure, deviation, wouldShift, count, digest. */
public final class MeasurementsTest {
    private static final int MIN = Integer.MIN_VALUE;
    private static final int MAX = Integer.MAX_VALUE;

    public static void main(String[] args) {
        measurementsAreNoted();
        measureTakesArgumentsInBounds();
        fortyMeasurementsAreTaken();
        measureThrowsTheFirstNamed();
        deviationsFollowCurveAndShift();
        deviationsAtEndsOfCurve();
        deviationNeedsItsMeasurement();
        deviationNeedsCompleteCurve();
        shiftsThatWouldFit();
        shiftThatWouldFitNeedsItsMeasurement();
        shiftThatWouldFitNeedsCompleteCurve();
        shiftThatWouldFitNeedsStageOfFlow();
        countsOfAll();
        countTakesWhat0To4();
        digestOfNewBook();
        digestOfNumbersInTheirOrder();
        digestFollowsEachChange();
        measurementQuestionsChangeNothing();
        Run.finish();
    }

    private static Run withCurve(String title, int... stagesAndFlows) {
        Run run = new Run(title).rows("addCurve(10) -> 0");
        for (int i = 0; i < stagesAndFlows.length; i += 2) {
            run.rows("addPoint(0, " + stagesAndFlows[i] + ", " + stagesAndFlows[i + 1] + ")");
        }
        return run;
    }

    private static void measurementsAreNoted() {
        withCurve("20 measure: the number of measurements", 0, 0, 100, 1000).rows("measure(20, 50, 7) -> 1",
                "count(4) -> 1", "measure(20, 50, 7) -> 2", "count(4) -> 2", "measure(10, 20, 300) -> 3",
                "count(4) -> 3", "deviation(0) -> -493", "deviation(1) -> -493", "deviation(2) -> 100",
                "count(2) -> 0", "flow(20) -> -1", "state(20) -> 0", "shift(20) -> 0");
    }

    private static void measureTakesArgumentsInBounds() {
        new Run("20 measure: day is 0 to 399, stage is -500 to 2000, flow is 0 to 1000000").rows(Run.SOME_OF_ALL)
                .illegalArgument("measure(-1, 5, 5)", "measure(400, 5, 5)", "measure(" + MIN + ", 5, 5)",
                        "measure(" + MAX + ", 5, 5)", "measure(5, -501, 5)", "measure(5, 2001, 5)",
                        "measure(5, " + MIN + ", 5)", "measure(5, " + MAX + ", 5)", "measure(5, 5, -1)",
                        "measure(5, 5, 1000001)", "measure(5, 5, " + MIN + ")", "measure(5, 5, " + MAX + ")",
                        "measure(-1, 2001, -1)");
        new Run("20 measure: at the bounds").rows("addCurve(0)", "addPoint(0, -500, 0)",
                "addPoint(0, 2000, 1000000)", "measure(0, -500, 0) -> 1", "measure(1, -499, 1) -> 2",
                "measure(399, 2000, 1000000) -> 3", "measure(398, 1999, 999999) -> 4", "deviation(0) -> 0",
                "deviation(1) -> -399", "deviation(2) -> 0", "deviation(3) -> 399", "wouldShift(0) -> 0",
                "wouldShift(1) -> 0", "wouldShift(2) -> 0", "wouldShift(3) -> -1");
    }

    private static void fortyMeasurementsAreTaken() {
        Run run = withCurve("20 measure: at most 40", 0, 0, 100, 1000);
        for (int i = 0; i < 40; i++) {
            run.due("measure(20, 50, " + i + ")", i + 1);
        }
        run.illegalState("measure(20, 50, 40)", "measure(0, -500, 0)", "measure(399, 2000, 1000000)")
                .rows("count(4) -> 40");
        for (int i = 0; i < 40; i++) {
            run.due("deviation(" + i + ")", i - 500);
        }
        run.outOfBounds("deviation(40)", "wouldShift(40)", "deviation(41)", "deviation(-1)");
    }

    private static void measureThrowsTheFirstNamed() {
        Run run = new Run("20 measure: the exception that is named first");
        for (int i = 0; i < 40; i++) {
            run.rows("measure(0, 0, 0)");
        }
        run.illegalArgument("measure(-1, 0, 0)", "measure(400, 0, 0)", "measure(0, -501, 0)", "measure(0, 2001, 0)",
                "measure(0, 0, -1)", "measure(0, 0, 1000001)").illegalState("measure(0, 0, 0)");
    }

    private static void deviationsFollowCurveAndShift() {
        withCurve("21 deviation: of the curve of its day, for its stage less the shift", 0, 0, 100, 1000).rows(
                "measure(20, 50, 700)", "measure(20, -1, 3)", "measure(10, 200, 0)", "deviation(0) -> 200",
                "deviation(1) -> 3", "deviation(2) -> -2000", "setShift(10, -10)", "setShift(30, 50)",
                "deviation(0) -> 400", "deviation(1) -> 3", "deviation(2) -> -2100", "freeze(0, 400, true)",
                "read(0, 400, 7, 0)", "deviation(0) -> 400", "addCurve(15)", "addPoint(1, 0, 1)",
                "addPoint(1, 1, 2)", "deviation(0) -> 669", "deviation(2) -> -2100", "addCurve(20)",
                "addPoint(2, 30, 100)", "addPoint(2, 32, 500)", "deviation(0) -> 600", "addCurve(21)",
                "deviation(0) -> 600");
        withCurve("21 deviation: in 64 bits", -500, 0, -499, 1000000).rows("setShift(0, -200)",
                "measure(10, 2000, 1)", "deviation(0) -> -2699999999", "setShift(0, 200)",
                "deviation(0) -> -2299999999");
    }

    private static void deviationsAtEndsOfCurve() {
        withCurve("21 deviation: below the lowest point, at it and above the highest one", 10, 100, 20, 200, 30, 400)
                .rows("measure(10, 9, 50)", "measure(10, 10, 50)", "measure(10, 11, 50)", "measure(10, 30, 50)",
                        "measure(10, 31, 50)", "deviation(0) -> 50", "deviation(1) -> -50", "deviation(2) -> -60",
                        "deviation(3) -> -350", "deviation(4) -> -370", "setShift(10, 1)", "deviation(0) -> 50",
                        "deviation(1) -> 50", "deviation(2) -> -50", "deviation(4) -> -350", "setShift(10, -1)",
                        "deviation(0) -> -50", "deviation(3) -> -370");
        withCurve("21 deviation: the lowest and the highest stage that counts", -500, 9, -499, 10).rows(
                "measure(10, -500, 0)", "measure(10, 2000, 0)", "deviation(0) -> -9", "deviation(1) -> -2509",
                "setShift(0, 200)", "deviation(0) -> 0", "deviation(1) -> -2309", "setShift(0, -200)",
                "deviation(0) -> -209", "deviation(1) -> -2709");
    }

    private static void deviationNeedsItsMeasurement() {
        String title = "21 deviation: there is such a measurement";
        withCurve(title, 0, 0, 1, 1).outOfBounds("deviation(-1)", "deviation(0)", "deviation(1)")
                .rows("measure(20, 5, 5)", "deviation(0) -> 0")
                .outOfBounds("deviation(-1)", "deviation(1)", "deviation(39)", "deviation(40)",
                        "deviation(" + MIN + ")", "deviation(" + MAX + ")")
                .rows("measure(20, 6, 7)", "deviation(1) -> 1", "deviation(0) -> 0").outOfBounds("deviation(2)");
        new Run(title + ", named ahead of the curve").outOfBounds("deviation(0)").rows("measure(0, 0, 0)")
                .outOfBounds("deviation(1)", "deviation(-1)");
    }

    private static void deviationNeedsCompleteCurve() {
        new Run("21 deviation: its day has a curve, which is complete").rows("measure(20, 50, 5)",
                "measure(19, 50, 5)").illegalState("deviation(0)")
                .rows("addCurve(21)", "addPoint(0, 0, 0)", "addPoint(0, 1, 1)").illegalState("deviation(0)")
                .rows("addCurve(20)").illegalState("deviation(0)", "deviation(1)")
                .rows("addPoint(1, 0, 0)").illegalState("deviation(0)", "deviation(1)")
                .rows("addPoint(1, 1, 2)", "deviation(0) -> -95").illegalState("deviation(1)")
                .rows("addCurve(19)", "deviation(0) -> -95").illegalState("deviation(1)")
                .rows("addPoint(2, 0, 0)", "addPoint(2, 50, 5)", "deviation(1) -> 0", "deviation(0) -> -95");
    }

    private static void shiftsThatWouldFit() {
        withCurve("22 wouldShift: its stage, less what stageBy() tells", 10, 100, 1000, 10000).rows(
                "measure(20, 50, 500)", "measure(20, 50, 501)", "measure(20, -500, 10000)",
                "measure(20, 2000, 0)", "measure(20, 7, 100)", "measure(20, 7, 99)", "measure(20, 7, 101)",
                "wouldShift(0) -> 0", "wouldShift(1) -> -1", "wouldShift(2) -> -1500", "wouldShift(3) -> 1990",
                "wouldShift(4) -> -3", "wouldShift(5) -> -3", "wouldShift(6) -> -4", "setShift(20, 100)",
                "wouldShift(0) -> 0", "addCurve(20)", "addPoint(1, 30, 0)", "addPoint(1, 40, 10000)",
                "wouldShift(0) -> 19", "wouldShift(2) -> -540", "addCurve(21)", "wouldShift(0) -> 19");
        withCurve("22 wouldShift: the widest ones", -500, 0, 2000, 1000000).rows("measure(10, 2000, 0)",
                "measure(399, -500, 1000000)", "wouldShift(0) -> 2500", "wouldShift(1) -> -2500");
    }

    private static void shiftThatWouldFitNeedsItsMeasurement() {
        String title = "22 wouldShift: there is such a measurement";
        withCurve(title, 0, 0, 1, 1).outOfBounds("wouldShift(-1)", "wouldShift(0)", "wouldShift(1)")
                .rows("measure(20, 5, 1)", "wouldShift(0) -> 4")
                .outOfBounds("wouldShift(-1)", "wouldShift(1)", "wouldShift(39)", "wouldShift(40)",
                        "wouldShift(" + MIN + ")", "wouldShift(" + MAX + ")")
                .rows("measure(20, 6, 0)", "wouldShift(1) -> 6", "wouldShift(0) -> 4").outOfBounds("wouldShift(2)");
        new Run(title + ", named ahead of the curve").outOfBounds("wouldShift(0)").rows("measure(0, 0, 0)")
                .outOfBounds("wouldShift(1)", "wouldShift(-1)");
    }

    private static void shiftThatWouldFitNeedsCompleteCurve() {
        new Run("22 wouldShift: its day has a curve, which is complete").rows("measure(20, 50, 0)",
                "measure(19, 50, 0)").illegalState("wouldShift(0)")
                .rows("addCurve(21)", "addPoint(0, 0, 0)", "addPoint(0, 9, 9)").illegalState("wouldShift(0)")
                .rows("addCurve(20)").illegalState("wouldShift(0)", "wouldShift(1)")
                .rows("addPoint(1, 3, 0)").illegalState("wouldShift(0)", "wouldShift(1)")
                .rows("addPoint(1, 4, 2)", "wouldShift(0) -> 47").illegalState("wouldShift(1)")
                .rows("addCurve(19)", "wouldShift(0) -> 47").illegalState("wouldShift(1)")
                .rows("addPoint(2, 0, 0)", "addPoint(2, 50, 5)", "wouldShift(1) -> 50", "wouldShift(0) -> 47");
    }

    private static void shiftThatWouldFitNeedsStageOfFlow() {
        withCurve("22 wouldShift: stageBy() does not tell -9999", 10, 100, 20, 200).rows("measure(20, 50, 199)",
                "measure(20, 50, 200)", "measure(20, 50, 201)", "measure(20, 50, 1000000)", "wouldShift(0) -> 30",
                "wouldShift(1) -> 30").illegalState("wouldShift(2)", "wouldShift(3)")
                .rows("deviation(2) -> -299", "addPoint(0, 30, 201)", "wouldShift(2) -> 20")
                .illegalState("wouldShift(3)").rows("addPoint(0, 2000, 1000000)", "wouldShift(3) -> -1950");
    }

    private static void countsOfAll() {
        withCurve("23 count: curves, shifts, days with a stage, days of ice, measurements", 0, 0, 1, 1).rows(
                "setShift(1, 0)", "setShift(2, 0)", "setShift(2, 5)", "read(0, 3, 0, 0)", "freeze(10, 4, true)",
                "measure(0, 0, 0)", "measure(0, 0, 0)", "measure(0, 0, 0)", "measure(0, 0, 0)", "measure(0, 0, 0)",
                "count(0) -> 1", "count(1) -> 2", "count(2) -> 3", "count(3) -> 4", "count(4) -> 5");
        new Run("23 count: as many as there may be").rows("read(0, 400, 0, 0)", "freeze(0, 400, true)",
                "count(2) -> 400", "count(3) -> 400", "erase(399, 1)", "freeze(0, 1, false)", "count(2) -> 399",
                "count(3) -> 399", "erase(0, 1)", "freeze(399, 1, false)", "count(2) -> 398", "count(3) -> 398",
                "erase(0, 399)", "freeze(1, 399, false)", "count(2) -> 0", "count(3) -> 0");
    }

    private static void countTakesWhat0To4() {
        new Run("23 count: what is 0 to 4").rows(Run.SOME_OF_ALL).rows("count(0) -> 2", "count(1) -> 2",
                "count(2) -> 96", "count(3) -> 10", "count(4) -> 2").outOfBounds("count(-1)", "count(-2)",
                "count(5)", "count(6)", "count(" + MIN + ")", "count(" + MAX + ")");
    }

    /** The document's sum without a bound, of which the lowest 64 bits are what wraps around. */
    private static long digestOf(int factor, int limit, String... rows) {
        BigInteger d = BigInteger.valueOf(317);
        Run counts = new Run("24 digest: counts").rows(rows);
        for (int what = 0; what < 5; what++) {
            d = next(d, counts.ask("count(" + what + ")"));
        }
        d = next(next(d, factor), limit);
        long[] shifts = onEachDay("shift", rows);
        long[] states = onEachDay("state", rows);
        long[] flows = onEachDay("flow", rows);
        for (int day = 0; day < 400; day++) {
            d = next(next(next(d, shifts[day]), states[day]), flows[day]);
        }
        return d.longValue();
    }

    private static long[] onEachDay(String question, String... rows) {
        long[] answers = new long[400];
        Run run = new Run("24 digest: " + question).rows(rows);
        for (int day = 0; day < 400; day++) {
            if (run.calls() == Run.MOST_CALLS) {
                run = new Run("24 digest: " + question).rows(rows);
            }
            answers[day] = run.ask(question + "(" + day + ")");
        }
        return answers;
    }

    private static BigInteger next(BigInteger d, long x) {
        return d.multiply(BigInteger.valueOf(31)).add(BigInteger.valueOf(x));
    }

    private static void digestOfNewBook() {
        BigInteger d = BigInteger.valueOf(317);
        for (int x : new int[] {0, 0, 0, 0, 0, 60, 5}) {
            d = next(d, x);
        }
        for (int day = 0; day < 400; day++) {
            d = next(next(next(d, 0), 0), -1);
        }
        new Run("24 digest: of a new book, wrapped around").due("digest()", d.longValue());
    }

    private static void digestOfNumbersInTheirOrder() {
        String title = "24 digest: wraps around as a 64-bit integer";
        new Run(title).rows(Run.SOME_OF_ALL).due("digest()", digestOf(70, 6, Run.SOME_OF_ALL))
                .due("digest()", digestOf(70, 6, Run.SOME_OF_ALL));
        String[] wide = {"addCurve(0)", "addPoint(0, -500, 0)", "addPoint(0, -499, 1000000)", "setShift(5, -200)",
            "setShift(300, 200)", "read(0, 350, -400, 6)", "erase(50, 4)", "freeze(40, 7, true)",
            "measure(3, 4, 5)", "setRules(0, 60)", "erase(100, 60)", "erase(170, 61)"};
        new Run(title).rows(wide).due("digest()", digestOf(0, 60, wide));
        String[] all = {"addCurve(0)", "addPoint(0, 0, 999999)", "addPoint(0, 1, 1000000)", "setShift(0, -200)",
            "read(0, 400, 2000, 0)", "freeze(0, 400, true)", "setRules(100, 0)"};
        new Run(title).rows(all).due("digest()", digestOf(100, 0, all));
        String[] full = Run.asMuchAsThereMayBe();
        new Run(title).rows(full).due("digest()", digestOf(50, 60, full));
        Run last = new Run("24 digest: the last number is the last day's flow").rows(Run.FLOW_IS_STAGE)
                .rows("read(399, 1, 10, 0)");
        long d = last.ask("digest()");
        last.rows("read(399, 1, 11, 0)").due("digest()", d + 1).rows("read(399, 1, 9, 0)").due("digest()", d - 1)
                .rows("read(399, 1, 0, 0)").due("digest()", d - 10);
    }

    private static void digestFollowsEachChange() {
        String[] changes = {"addCurve(0)", "read(0, 5, 10, 1)", "addPoint(0, 0, 0)", "addPoint(0, 5, 5)",
            "setShift(9, 0)", "setShift(9, 1)", "freeze(0, 1, true)", "setRules(61, 5)", "setRules(61, 6)",
            "measure(0, 0, 0)", "erase(4, 1)", "freeze(0, 1, false)", "addPoint(0, 6, 9)", "addCurve(399)",
            "read(399, 1, 5, 0)"};
        Run run = new Run("24 digest: after each change");
        for (int i = 0; i < changes.length; i++) {
            String[] past = Arrays.copyOf(changes, i + 1);
            run.rows(changes[i]).due("digest()", digestOf(i < 7 ? 60 : 61, i < 8 ? 5 : 6, past));
        }
    }

    private static void measurementQuestionsChangeNothing() {
        new Run("21 to 24: what only tells changes nothing").rows(Run.SOME_OF_ALL).changesNothing("deviation(0)",
                "deviation(1)", "wouldShift(0)", "count(0)", "count(4)", "digest()");
    }
}
