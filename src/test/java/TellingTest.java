/** Promises 15 to 19: sum, mean, reached, peaks, spell. */
public final class TellingTest {
    private static final int MIN = Integer.MIN_VALUE;
    private static final int MAX = Integer.MAX_VALUE;

    public static void main(String[] args) {
        sumsOfDays();
        sumsOfNoDays();
        sumsCountFilledGaps();
        sumsEndAtFirstAndLastDay();
        greatestFlowIsTheFirstOfSeveral();
        sumsAreReckonedIn64Bits();
        sumTakesWhat0To4();
        sumTakesDaysInTheirOrder();
        sumThrowsTheFirstNamed();
        meansOfDays();
        meanTakesDaysInTheirOrder();
        flowsReached();
        rankReachedIsCutAndAtLeastOne();
        reachedTakesPercents1To100();
        peaksReachLimit();
        peaksAreApart();
        peaksAreAsFarApartAsTold();
        peaksAreFoundByTheirFlow();
        peaksTakeFirstOfEqualFlows();
        peaksTakeLimitsFrom0();
        peaksAreApart1To100Days();
        spellsOfDays();
        spellsEndAtFirstAndLastDay();
        spellsOfFlowsBelowLimit();
        spellTakesLimitsFrom0();
        tellingChangesNothing();
        Run.finish();
    }

    private static void checkSums(Run run, int from, int to, long... due) {
        for (int what = 0; what < 5; what++) {
            run.due("sum(" + from + ", " + to + ", " + what + ")", due[what]);
        }
    }

    private static void sumsOfDays() {
        Run run = Run.withFlows("15 sum: number, sum, greatest, least, first greatest", 5, -1, 9, 3, 9, -1, 0);
        checkSums(run, 0, 399, 5, 26, 9, 0, 2);
        checkSums(run, 0, 6, 5, 26, 9, 0, 2);
        checkSums(run, 0, 5, 4, 26, 9, 3, 2);
        checkSums(run, 1, 5, 3, 21, 9, 3, 2);
        checkSums(run, 3, 6, 3, 12, 9, 0, 4);
        checkSums(run, 0, 1, 1, 5, 5, 5, 0);
        checkSums(run, 1, 2, 1, 9, 9, 9, 2);
        checkSums(run, 3, 3, 1, 3, 3, 3, 3);
        checkSums(run, 6, 6, 1, 0, 0, 0, 6);
        checkSums(run, 6, 399, 1, 0, 0, 0, 6);
    }

    private static void sumsOfNoDays() {
        Run run = Run.withFlows("15 sum: -1 if none has", 5, -1, -1, 5);
        checkSums(run, 1, 2, 0, 0, -1, -1, -1);
        checkSums(run, 1, 1, 0, 0, -1, -1, -1);
        checkSums(run, 4, 399, 0, 0, -1, -1, -1);
        checkSums(run, 0, 2, 1, 5, 5, 5, 0);
        checkSums(run, 1, 3, 1, 5, 5, 5, 3);
        checkSums(new Run("15 sum: of a new book"), 0, 399, 0, 0, -1, -1, -1);
        checkSums(Run.withFlows("15 sum: of a flow of 0", 0), 0, 399, 1, 0, 0, 0, 0);
    }

    private static void sumsCountFilledGaps() {
        Run run = Run.withFlows("15 sum: filled gaps have flows", 4, -1, -1, 10).rows("setRules(60, 2)");
        checkSums(run, 0, 399, 4, 28, 10, 4, 3);
        checkSums(run, 1, 2, 2, 14, 8, 6, 2);
        run.rows("setRules(60, 1)");
        checkSums(run, 0, 399, 2, 14, 10, 4, 3);
        run.rows("freeze(3, 1, true)", "setRules(10, 2)");
        checkSums(run, 0, 399, 4, 10, 4, 1, 0);
    }

    private static void sumsEndAtFirstAndLastDay() {
        Run run = Run.withFlows("15 sum: days 0 to 399", 7, 8).rows("read(398, 2, 20, -1)");
        checkSums(run, 0, 399, 4, 54, 20, 7, 398);
        checkSums(run, 1, 398, 2, 28, 20, 8, 398);
        checkSums(run, 0, 398, 3, 35, 20, 7, 398);
        checkSums(run, 1, 399, 3, 47, 20, 8, 398);
        checkSums(run, 0, 0, 1, 7, 7, 7, 0);
        checkSums(run, 1, 1, 1, 8, 8, 8, 1);
        checkSums(run, 398, 398, 1, 20, 20, 20, 398);
        checkSums(run, 399, 399, 1, 19, 19, 19, 399);
        checkSums(run, 398, 399, 2, 39, 20, 19, 398);
        checkSums(run, 2, 397, 0, 0, -1, -1, -1);
        run.rows("read(0, 400, 5, 0)");
        checkSums(run, 0, 399, 400, 2000, 5, 5, 0);
        checkSums(run, 1, 398, 398, 1990, 5, 5, 1);
    }

    private static void greatestFlowIsTheFirstOfSeveral() {
        Run run = Run.withFlows("15 sum: the first day with the greatest flow", 9, 1, 9, 9, 1, 8, 9);
        run.rows("sum(0, 6, 4) -> 0", "sum(1, 6, 4) -> 2", "sum(2, 6, 4) -> 2", "sum(3, 6, 4) -> 3",
                "sum(4, 6, 4) -> 6", "sum(4, 5, 4) -> 5", "sum(1, 1, 4) -> 1", "read(399, 1, 9, 0)",
                "sum(4, 399, 4) -> 6", "sum(7, 399, 4) -> 399", "read(399, 1, 10, 0)", "sum(0, 399, 4) -> 399",
                "sum(0, 398, 4) -> 0");
    }

    private static void sumsAreReckonedIn64Bits() {
        Run run = new Run("15 sum: in 64 bits").rows("addCurve(0)", "addPoint(0, -500, 0)",
                "addPoint(0, -499, 1000000)", "setShift(0, -200)", "read(0, 400, 2000, 0)", "read(7, 1, 1999, 0)");
        checkSums(run, 0, 399, 400, 1079999000000L, 2700000000L, 2699000000L, 0);
        checkSums(run, 7, 7, 1, 2699000000L, 2699000000L, 2699000000L, 7);
        run.rows("mean(0, 399) -> 2.6999975E9", "reached(100) -> 2699000000", "reached(99) -> 2700000000");
        Run narrow = new Run("15 sum: a sum of more than 32 bits").rows("addCurve(0)", "addPoint(0, 0, 0)",
                "addPoint(0, 1, 1000000)", "setShift(0, 0)", "read(0, 100, 21, 0)", "read(100, 1, 47, 0)");
        narrow.rows("sum(0, 100, 1) -> 2147000000", "read(100, 1, 48, 0)", "sum(0, 100, 1) -> 2148000000");
    }

    private static void sumTakesWhat0To4() {
        Run.withFlows("15 sum: what is 0 to 4", 5, 7, 6).rows("sum(0, 2, 0) -> 3", "sum(0, 2, 1) -> 18",
                "sum(0, 2, 2) -> 7", "sum(0, 2, 3) -> 5", "sum(0, 2, 4) -> 1")
                .outOfBounds("sum(0, 2, -1)", "sum(0, 2, 5)", "sum(0, 2, 6)", "sum(0, 2, " + MIN + ")",
                        "sum(0, 2, " + MAX + ")");
    }

    private static final int[][] WRONG_RANGES = {
        {-1, 0}, {-1, 399}, {-1, -1}, {-2, -1}, {1, 0}, {200, 199}, {399, 398}, {399, 0}, {0, -1}, {0, 400},
        {399, 400}, {400, 400}, {400, 399}, {401, 400}, {-1, 400}, {MIN, 0}, {MIN, MIN}, {0, MAX}, {0, MIN},
        {MAX, MAX}, {MIN, MAX}, {MAX, MIN}, {MAX, 0}};

    private static void sumTakesDaysInTheirOrder() {
        Run run = Run.withFlows("15 sum: from is not less than 0 nor greater than to, to is not greater than 399",
                5, 6, 7);
        for (int[] range : WRONG_RANGES) {
            String call = "sum(" + range[0] + ", " + range[1] + ", ";
            run.illegalArgument(call + "0)", call + "1)", call + "2)", call + "3)", call + "4)");
        }
        run.rows("sum(0, 0, 1) -> 5", "sum(0, 1, 1) -> 11", "sum(1, 1, 1) -> 6", "sum(1, 2, 1) -> 13",
                "sum(0, 399, 1) -> 18", "sum(0, 398, 1) -> 18", "sum(1, 399, 1) -> 13", "sum(399, 399, 1) -> 0",
                "sum(398, 399, 1) -> 0");
    }

    private static void sumThrowsTheFirstNamed() {
        Run.withFlows("15 sum: the exception that is named first", 5).outOfBounds("sum(-1, 0, 5)",
                "sum(1, 0, -1)", "sum(0, 400, 5)", "sum(-1, 400, -1)")
                .illegalArgument("sum(-1, 0, 4)", "sum(1, 0, 0)", "sum(0, 400, 4)");
    }

    private static void meansOfDays() {
        Run.withFlows("16 mean: of the days that have a flow", 5, -1, 9, 3, 8).rows("mean(0, 4) -> 6.25",
                "mean(0, 399) -> 6.25", "mean(0, 0) -> 5.0", "mean(0, 1) -> 5.0", "mean(0, 2) -> 7.0",
                "mean(1, 2) -> 9.0", "mean(3, 4) -> 5.5", "mean(4, 4) -> 8.0", "mean(4, 5) -> 8.0",
                "mean(1, 1) -> 0.0", "mean(5, 399) -> 0.0").due("mean(0, 3)", 17.0 / 3.0)
                .rows("setRules(60, 1)", "mean(1, 1) -> 7.0", "mean(0, 4) -> 6.4", "read(399, 1, 7, 0)",
                        "mean(399, 399) -> 7.0", "mean(398, 399) -> 7.0", "mean(398, 398) -> 0.0",
                        "mean(0, 399) -> 6.5");
        new Run("16 mean: 0 if none has").rows("mean(0, 399) -> 0.0", "mean(0, 0) -> 0.0", "mean(399, 399) -> 0.0");
        Run.withFlows("16 mean: of a flow of 0", 0, 1).rows("mean(0, 0) -> 0.0", "mean(0, 1) -> 0.5");
    }

    private static void meanTakesDaysInTheirOrder() {
        Run run = Run.withFlows("16 mean: from is not less than 0 nor greater than to, to is not greater than 399",
                5, 6, 7);
        for (int[] range : WRONG_RANGES) {
            run.illegalArgument("mean(" + range[0] + ", " + range[1] + ")");
        }
        run.rows("mean(0, 0) -> 5.0", "mean(0, 1) -> 5.5", "mean(1, 1) -> 6.0", "mean(0, 399) -> 6.0",
                "mean(1, 398) -> 6.5", "mean(399, 399) -> 0.0");
    }

    private static void flowsReached() {
        Run.withFlows("17 reached: the r-th greatest flow", 30, 10, -1, 20, 40, 20).rows("reached(1) -> 40",
                "reached(19) -> 40", "reached(20) -> 40", "reached(39) -> 40", "reached(40) -> 30",
                "reached(59) -> 30", "reached(60) -> 20", "reached(79) -> 20", "reached(80) -> 20",
                "reached(99) -> 20", "reached(100) -> 10", "setRules(60, 1)", "reached(16) -> 40",
                "reached(83) -> 20", "reached(84) -> 15", "reached(99) -> 15", "reached(100) -> 10");
        new Run("17 reached: -1 if no day has a flow").rows("reached(1) -> -1", "reached(50) -> -1",
                "reached(100) -> -1", "read(0, 400, 5, 0)", "reached(1) -> -1", "reached(100) -> -1");
        Run.withFlows("17 reached: a flow of 0", 0, -1, 0).rows("reached(1) -> 0", "reached(100) -> 0");
        Run.withFlows("17 reached: on the first and the last day").rows("read(0, 1, 8, 0)", "read(399, 1, 9, 0)",
                "reached(1) -> 9", "reached(99) -> 9", "reached(100) -> 8", "read(0, 1, 10, 0)",
                "reached(99) -> 10", "reached(100) -> 9");
    }

    private static void rankReachedIsCutAndAtLeastOne() {
        for (int days : new int[] {1, 2, 3, 49, 50, 51, 99, 100, 101, 199, 200, 201, 399, 400}) {
            Run run = new Run("17 reached: r = n * percent / 100, at least 1, with n " + days)
                    .rows(Run.FLOW_IS_STAGE).rows("read(0, " + days + ", 1, 1)");
            for (int percent = 1; percent <= 100; percent++) {
                int rank = Math.max(1, days * percent / 100);
                run.due("reached(" + percent + ")", days + 1 - rank);
            }
            run.rows("read(0, " + days + ", " + days + ", -1)").due("reached(100)", 1).due("reached(1)",
                    days + 1 - Math.max(1, days / 100));
        }
        new Run("17 reached: r is 1 up to 199 days and 2 from 200 days on").rows(Run.FLOW_IS_STAGE).rows(
                "read(0, 199, 1, 1)", "reached(1) -> 199", "read(199, 1, 200, 0)", "reached(1) -> 199",
                "read(200, 1, 201, 0)", "reached(1) -> 200");
    }

    private static void reachedTakesPercents1To100() {
        Run.withFlows("17 reached: percent is 1 to 100", 1, 2, 3).illegalArgument("reached(0)", "reached(-1)",
                "reached(101)", "reached(102)", "reached(" + MIN + ")", "reached(" + MAX + ")")
                .rows("reached(1) -> 3", "reached(2) -> 3", "reached(99) -> 2", "reached(100) -> 1");
        new Run("17 reached: percent is 1 to 100, without a flow").illegalArgument("reached(0)", "reached(101)")
                .rows("reached(1) -> -1", "reached(100) -> -1");
    }

    private static void peaksReachLimit() {
        Run.withFlows("18 peaks: a flow of at least a limit", 10, -1, 20, -1, 30, -1, 0).rows("peaks(0, 1) -> 4",
                "peaks(1, 1) -> 3", "peaks(9, 1) -> 3", "peaks(10, 1) -> 3", "peaks(11, 1) -> 2",
                "peaks(20, 1) -> 2", "peaks(21, 1) -> 1", "peaks(29, 1) -> 1", "peaks(30, 1) -> 1",
                "peaks(31, 1) -> 0", "peaks(" + Long.MAX_VALUE + ", 1) -> 0", "setRules(60, 1)",
                "peaks(15, 1) -> 5", "peaks(16, 1) -> 3", "peaks(0, 1) -> 7");
        new Run("18 peaks: no day with a flow").rows("peaks(0, 1) -> 0", "peaks(0, 100) -> 0");
        new Run("18 peaks: a limit of more than 32 bits").rows("addCurve(0)", "addPoint(0, -500, 0)",
                "addPoint(0, -499, 1000000)", "read(0, 1, 2000, 0)", "peaks(2499999999, 1) -> 1",
                "peaks(2500000000, 1) -> 1", "peaks(2500000001, 1) -> 0", "peaks(4294967296, 1) -> 0");
    }

    private static void peaksAreApart() {
        Run.withFlows("18 peaks: so many days away from each peak", 10, 20, 50, 40, 30, 60, 5).rows(
                "peaks(0, 1) -> 7", "peaks(0, 2) -> 3", "peaks(0, 3) -> 2", "peaks(0, 4) -> 2", "peaks(0, 5) -> 2",
                "peaks(0, 6) -> 1", "peaks(0, 100) -> 1", "read(398, 2, 1, 1)", "peaks(0, 100) -> 2",
                "peaks(0, 1) -> 9", "read(398, 2, 2, -1)", "peaks(0, 2) -> 4", "read(0, 2, 70, -1)",
                "peaks(60, 2) -> 2", "read(0, 2, 70, 1)", "peaks(60, 2) -> 2");
        new Run("18 peaks: of all days").rows(Run.FLOW_IS_STAGE).rows("read(0, 400, 0, 1)", "peaks(0, 1) -> 400",
                "peaks(0, 2) -> 200", "peaks(0, 99) -> 5", "peaks(0, 100) -> 4", "peaks(99, 100) -> 4",
                "peaks(100, 100) -> 3", "read(0, 400, 399, -1)", "peaks(0, 1) -> 400", "peaks(0, 99) -> 5",
                "peaks(0, 100) -> 4");
    }

    private static void peaksAreAsFarApartAsTold() {
        for (int apart : new int[] {1, 2, 3, 50, 99, 100}) {
            for (int days = Math.max(1, apart - 1); days <= apart + 1; days++) {
                for (int first : new int[] {0, 1, 150, 398 - days, 399 - days}) {
                    checkTwoPeaks(apart, first, first + days);
                }
            }
        }
    }

    private static void checkTwoPeaks(int apart, int first, int second) {
        int due = second - first >= apart ? 2 : 1;
        String title = "18 peaks: days " + first + " and " + second + ", at least " + apart + " apart";
        String question = "peaks(5, " + apart + ")";
        new Run(title).rows(Run.FLOW_IS_STAGE).rows("setRules(60, 0)")
                .rows("read(" + first + ", 1, 9, 0)", "read(" + second + ", 1, 8, 0)").due(question, due)
                .rows("read(" + second + ", 1, 10, 0)").due(question, due)
                .rows("read(" + second + ", 1, 9, 0)").due(question, due);
    }

    private static void peaksAreFoundByTheirFlow() {
        Run.withFlows("18 peaks: the greatest flow first, not the first day", 50, -1, -1, 60, -1, -1, 50).rows(
                "peaks(0, 3) -> 3", "peaks(0, 4) -> 1", "peaks(0, 7) -> 1");
        Run.withFlows("18 peaks: a day near a peak keeps none away", 100, -1, -1, 90, -1, -1, 80).rows(
                "peaks(0, 3) -> 3", "peaks(0, 4) -> 2", "peaks(0, 6) -> 2", "peaks(0, 7) -> 1");
        Run.withFlows("18 peaks: away from each peak, not from the last one found", 100, -1, -1, -1, -1, 80, -1, -1,
                -1, -1, 90).rows("peaks(0, 5) -> 3", "peaks(0, 6) -> 2", "peaks(0, 10) -> 2", "peaks(0, 11) -> 1");
        Run.withFlows("18 peaks: days below the limit are none", 100, -1, -1, 4, -1, -1, 80).rows(
                "peaks(5, 3) -> 2", "peaks(4, 3) -> 3", "peaks(5, 1) -> 2");
    }

    private static void peaksTakeFirstOfEqualFlows() {
        // The first of the three on days 1 to 3 keeps days 0 to 2 away, so that day 3 is a peak too.
        Run.withFlows("18 peaks: of several the first one", 1, 9, 9, 9, 1).rows("peaks(0, 2) -> 2",
                "peaks(0, 3) -> 2", "peaks(0, 4) -> 1");
        Run.withFlows("18 peaks: the first, near a lower day", 8, 9, 9).rows("peaks(0, 2) -> 1");
        Run.withFlows("18 peaks: the last, near a lower day", 9, 9, 8).rows("peaks(0, 2) -> 2");
        Run.withFlows("18 peaks: behind a peak, the first near a lower day", 20, -1, 8, 9, 9).rows(
                "peaks(0, 2) -> 2");
        Run.withFlows("18 peaks: behind a peak, the last near a lower day", 20, -1, 9, 9, 8).rows(
                "peaks(0, 2) -> 3");
        Run.withFlows("18 peaks: all alike", 7, 7, 7, 7, 7, 7, 7).rows("peaks(7, 1) -> 7", "peaks(7, 2) -> 4",
                "peaks(7, 3) -> 3", "peaks(7, 6) -> 2", "peaks(7, 7) -> 1", "peaks(8, 1) -> 0");
        Run.withFlows("18 peaks: all 400 alike").rows("read(0, 400, 3, 0)", "peaks(0, 1) -> 400",
                "peaks(0, 7) -> 58", "peaks(3, 99) -> 5", "peaks(3, 100) -> 4", "peaks(4, 1) -> 0");
    }

    private static void peaksTakeLimitsFrom0() {
        Run.withFlows("18 peaks: limit is not less than 0", 0, -1, 1).illegalArgument("peaks(-1, 1)",
                "peaks(-2, 1)", "peaks(" + Long.MIN_VALUE + ", 1)", "peaks(-4294967296, 1)", "peaks(-1, 0)",
                "peaks(-1, 101)").rows("peaks(0, 1) -> 2", "peaks(1, 1) -> 1", "peaks(2, 1) -> 0",
                "peaks(" + Long.MAX_VALUE + ", 1) -> 0");
    }

    private static void peaksAreApart1To100Days() {
        Run.withFlows("18 peaks: apart is 1 to 100", 4, 5, 4).illegalArgument("peaks(0, 0)", "peaks(0, -1)",
                "peaks(0, 101)", "peaks(0, 102)", "peaks(0, " + MIN + ")", "peaks(0, " + MAX + ")",
                "peaks(9, 0)", "peaks(9, 101)").rows("peaks(0, 1) -> 3", "peaks(0, 2) -> 1", "peaks(0, 99) -> 1",
                "peaks(0, 100) -> 1");
    }

    private static void spellsOfDays() {
        Run.withFlows("19 spell: the longest one", 1, 1, 5, 1, 1, 1, -1, 1, 1, 1, 1, 7).rows("spell(0) -> 0",
                "spell(1) -> 0", "spell(2) -> 4", "spell(5) -> 4", "spell(6) -> 6", "spell(7) -> 6",
                "spell(8) -> 6", "spell(" + Long.MAX_VALUE + ") -> 6", "setRules(60, 1)", "spell(2) -> 8",
                "spell(8) -> 12", "read(6, 1, 2, 0)", "spell(2) -> 4", "spell(3) -> 8");
        Run.withFlows("19 spell: the longest one is the first", 1, 1, 1, 9, 1, 1, 9, 1).rows("spell(2) -> 3");
        Run.withFlows("19 spell: of one day", 1, -1, 1, -1, 1).rows("spell(2) -> 1", "spell(1) -> 0");
        new Run("19 spell: no day with a flow").rows("spell(0) -> 0", "spell(1) -> 0",
                "spell(" + Long.MAX_VALUE + ") -> 0");
    }

    private static void spellsEndAtFirstAndLastDay() {
        Run.withFlows("19 spell: from the first to the last day").rows("read(0, 400, 3, 0)", "spell(4) -> 400",
                "spell(3) -> 0", "read(200, 1, 4, 0)", "spell(4) -> 200", "spell(5) -> 400", "read(199, 1, 4, 0)",
                "spell(4) -> 199", "read(199, 2, 3, 0)", "read(0, 1, 4, 0)", "spell(4) -> 399", "erase(0, 1)",
                "spell(4) -> 399", "read(0, 1, 3, 0)", "erase(399, 1)", "spell(4) -> 399", "read(399, 1, 4, 0)",
                "spell(4) -> 399", "read(399, 1, 3, 0)", "spell(4) -> 400");
    }

    private static void spellsOfFlowsBelowLimit() {
        Run.withFlows("19 spell: a flow of less than a limit", 0, 10, 11, 12, 11, 10).rows("spell(0) -> 0",
                "spell(1) -> 1", "spell(9) -> 1", "spell(10) -> 1", "spell(11) -> 2", "spell(12) -> 3",
                "spell(13) -> 6");
        new Run("19 spell: a limit of more than 32 bits").rows("addCurve(0)", "addPoint(0, -500, 0)",
                "addPoint(0, -499, 1000000)", "read(0, 3, 2000, 0)", "spell(2500000000) -> 0",
                "spell(2500000001) -> 3", "spell(2499999999) -> 0", "spell(4294967296) -> 3");
    }

    private static void spellTakesLimitsFrom0() {
        Run.withFlows("19 spell: limit is not less than 0", 0, 0).illegalArgument("spell(-1)", "spell(-2)",
                "spell(" + Long.MIN_VALUE + ")", "spell(-4294967296)").rows("spell(0) -> 0", "spell(1) -> 2",
                "spell(" + Long.MAX_VALUE + ") -> 2");
    }

    private static void tellingChangesNothing() {
        new Run("15 to 19: what only tells changes nothing").rows(Run.SOME_OF_ALL).changesNothing(
                "sum(0, 399, 0)", "sum(0, 399, 1)", "sum(0, 399, 2)", "sum(0, 399, 3)", "sum(0, 399, 4)",
                "mean(0, 399)", "reached(1)", "reached(100)", "peaks(0, 1)", "peaks(0, 100)", "spell(0)",
                "spell(1000)");
    }
}
