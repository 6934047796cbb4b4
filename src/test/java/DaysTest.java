/** Promises 9 to 14, and what the terms say of days and gaps: read, erase, freeze, setRules, state, flow. */
public final class DaysTest {
    private static final int MIN = Integer.MIN_VALUE;
    private static final int MAX = Integer.MAX_VALUE;

    public static void main(String[] args) {
        stagesAreRead();
        stagesRiseAndFall();
        readTakesDays0To399();
        readTakesStagesInBounds();
        readTakesEachStageInBounds();
        readKeepsStagesWhereRefused();
        stagesAreErased();
        eraseTakesDays0To399();
        daysFreeze();
        freezeTakesDays0To399();
        rulesAreSet();
        factorIsInBounds();
        limitIsInBounds();
        statesOfDays();
        stateAndFlowAreOfDays0To399();
        flowNeedsStage();
        flowNeedsCurveOfDay();
        flowNeedsCompleteCurve();
        flowIsOfStageThatCounts();
        flowOfStagesFarBeyondCurve();
        flowUnderIceIsLessened();
        flowUnderIceIsCut();
        gapsAsLongAsLimitAreFilled();
        gapsOfOneDay();
        gapsNeedToldFlowsAtBothEnds();
        gapsAreAsLongAsPossible();
        gapsAreOfAllDaysWithoutToldFlow();
        gapsAreFilledByToldFlowsAlone();
        gapsLieBetweenFlowsUnderIce();
        gapsAreCutTowardsZero();
        flowsFollowEachChange();
        flowsAreReckonedIn64Bits();
        dayQuestionsChangeNothing();
        Run.finish();
    }

    private static Run plain(String title) {
        return new Run(title).rows(Run.FLOW_IS_STAGE);
    }

    private static void stagesAreRead() {
        plain("9 read: how many of them had a stage before").rows("read(10, 5, 100, 0) -> 0", "count(2) -> 5",
                "read(12, 5, 200, 0) -> 3", "count(2) -> 7", "flow(9) -> -1", "flow(10) -> 100", "flow(11) -> 100",
                "flow(12) -> 200", "flow(16) -> 200", "flow(17) -> -1", "read(9, 1, 5, 0) -> 0",
                "read(9, 1, 6, 0) -> 1", "read(17, 2, 5, 0) -> 0", "read(8, 12, 7, 0) -> 10",
                "read(0, 400, 2000, 0) -> 12", "read(0, 400, -500, 0) -> 400", "read(399, 1, 2000, 0) -> 1",
                "count(2) -> 400", "flow(398) -> 0", "flow(399) -> 2000");
    }

    private static void stagesRiseAndFall() {
        plain("9 read: stages that rise or fall alike").rows("read(0, 4, 10, 3) -> 0", "flow(0) -> 10",
                "flow(1) -> 13", "flow(2) -> 16", "flow(3) -> 19", "flow(4) -> -1", "read(0, 4, 19, -6) -> 4",
                "flow(0) -> 19", "flow(1) -> 13", "flow(2) -> 7", "flow(3) -> 1", "read(0, 400, 5, 5) -> 4",
                "flow(0) -> 5", "flow(1) -> 10", "flow(398) -> 1995", "flow(399) -> 2000",
                "read(398, 2, 3, 1) -> 2", "flow(397) -> 1990", "flow(398) -> 3", "flow(399) -> 4");
    }

    /** The bounds that read, erase and freeze have in common; behind the days stand other arguments. */
    private static String[] daysOutOfBounds(String call, String behind) {
        int[][] spans = {
            {-1, 1}, {-1, 2}, {-1, 401}, {400, 1}, {401, 1}, {400, 0}, {0, 0}, {5, 0}, {399, 0}, {0, -1}, {5, -1},
            {0, 401}, {0, 402}, {398, 3}, {399, 2}, {399, 3}, {1, 400}, {2, 399}, {200, 201}, {MIN, 1}, {MAX, 1},
            {MAX, 2}, {0, MIN}, {0, MAX}, {1, MAX}, {399, MAX}, {MIN, MIN}, {MIN, MAX}, {MAX, MAX}, {-1, 0}};
        String[] calls = new String[spans.length];
        for (int i = 0; i < spans.length; i++) {
            calls[i] = call + "(" + spans[i][0] + ", " + spans[i][1] + behind + ")";
        }
        return calls;
    }

    private static void readTakesDays0To399() {
        String title = "9 read: day is 0 to 399, days is 1 to 400, the last day is not greater than 399";
        new Run(title).rows(Run.SOME_OF_ALL).illegalArgument(daysOutOfBounds("read", ", 50, 0"));
        plain(title).illegalArgument("read(-1, 1, 7, 0)", "read(400, 1, 7, 0)", "read(0, 0, 7, 0)",
                "read(399, 2, 7, 0)").rows("read(0, 1, 1, 0) -> 0", "read(1, 2, 2, 0) -> 0", "read(399, 1, 3, 0) -> 0",
                "read(398, 1, 4, 0) -> 0", "read(397, 3, 5, 0) -> 2", "read(398, 2, 6, 0) -> 2", "flow(0) -> 1",
                "flow(1) -> 2", "flow(2) -> 2", "flow(3) -> -1", "flow(396) -> -1", "flow(397) -> 5",
                "flow(398) -> 6", "flow(399) -> 6", "count(2) -> 6", "read(200, 200, 7, 0) -> 3",
                "read(2, 398, 8, 0) -> 201", "read(1, 399, 9, 0) -> 399", "flow(0) -> 1",
                "read(0, 399, 10, 0) -> 399", "flow(399) -> 9", "read(0, 400, 11, 0) -> 400", "flow(399) -> 11");
    }

    private static void readTakesStagesInBounds() {
        new Run("9 read: the stage is -500 to 2000").rows("addCurve(0)", "addPoint(0, -500, 0)",
                "addPoint(0, 2000, 2500)", "read(5, 3, 7, 0)")
                .illegalArgument("read(5, 1, -501, 0)", "read(5, 1, 2001, 0)", "read(5, 3, -501, 0)",
                        "read(5, 3, 2001, 0)", "read(5, 1, " + MIN + ", 0)", "read(5, 1, " + MAX + ", 0)")
                .rows("read(0, 1, -500, 0) -> 0", "read(1, 1, -499, 0) -> 0", "read(2, 1, 1999, 0) -> 0",
                        "read(3, 1, 2000, 0) -> 0", "read(6, 2, 2000, 0) -> 2", "flow(0) -> 0", "flow(1) -> 1",
                        "flow(2) -> 2499", "flow(3) -> 2500", "flow(5) -> 507", "flow(6) -> 2500",
                        "flow(7) -> 2500");
    }

    private static void readTakesEachStageInBounds() {
        Run run = new Run("9 read: each of the stages is -500 to 2000").rows("addCurve(0)", "addPoint(0, -500, 0)",
                "addPoint(0, 2000, 2500)", "read(0, 400, 7, 0)", "erase(100, 100)");
        run.illegalArgument(
                "read(0, 2, -501, 1)", "read(0, 2, 2001, -1)", "read(0, 2, 2000, 1)", "read(0, 2, -500, -1)",
                "read(0, 3, 1999, 1)", "read(0, 3, -499, -1)", "read(0, 2, 0, 2001)", "read(0, 2, 0, -501)",
                "read(0, 3, -500, 1251)", "read(0, 3, 2000, -1251)", "read(0, 2, -500, 2501)",
                "read(0, 2, 2000, -2501)", "read(0, 400, 6, 5)", "read(0, 400, 1494, -5)", "read(0, 400, 1602, 1)",
                "read(0, 400, 1603, 1)", "read(0, 400, -102, -1)", "read(0, 400, -101, -2)",
                "read(0, 2, 0, " + MAX + ")", "read(0, 2, 0, " + MIN + ")", "read(0, 2, " + MAX + ", " + MIN + ")",
                "read(0, 400, 0, " + MAX + ")", "read(0, 400, 0, " + MIN + ")");
        // In 32 bits 4 * 2^30 wraps around to 0, 5 * 858993459 to -1 and 2 * -2^31 to 0.
        run.illegalArgument("read(0, 5, 0, 1073741824)", "read(0, 6, 0, 858993459)", "read(0, 3, 0, " + MIN + ")",
                "read(0, 257, 7, 16777216)");
        run.rows("read(0, 2, -499, -1) -> 2", "flow(0) -> 1", "flow(1) -> 0", "read(0, 2, 1999, 1) -> 2",
                "flow(0) -> 2499", "flow(1) -> 2500", "read(0, 3, -500, 1250) -> 3", "flow(0) -> 0",
                "flow(1) -> 1250", "flow(2) -> 2500", "read(0, 3, 2000, -1250) -> 3", "flow(0) -> 2500",
                "flow(2) -> 0", "read(0, 2, -500, 2500) -> 2", "flow(1) -> 2500", "read(0, 2, 2000, -2500) -> 2",
                "flow(1) -> 0", "read(0, 3, -500, 1249) -> 3", "flow(2) -> 2498", "read(0, 400, 1601, 1) -> 300",
                "flow(0) -> 2101", "flow(399) -> 2500", "read(0, 400, 1600, 1) -> 400", "flow(399) -> 2499",
                "read(0, 400, -101, -1) -> 400", "flow(0) -> 399", "flow(399) -> 0",
                "read(0, 400, -100, -1) -> 400", "flow(399) -> 1", "read(0, 400, 1495, -5) -> 400",
                "flow(0) -> 1995", "flow(399) -> 0", "read(0, 400, 5, 5) -> 400", "flow(399) -> 2500");
        plain("9 read: one day looks at no rise").rows("read(7, 1, 7, " + MAX + ") -> 0", "flow(7) -> 7",
                "read(7, 1, 8, " + MIN + ") -> 1", "flow(7) -> 8", "read(399, 1, 9, 2500) -> 0", "flow(399) -> 9",
                "flow(8) -> -1");
    }

    private static void readKeepsStagesWhereRefused() {
        plain("9 read: a refused one notes none of its stages").rows("read(5, 2, 30, 1)")
                .illegalArgument("read(4, 5, 1998, 1)", "read(4, 5, -498, -1)", "read(398, 3, 50, 0)")
                .rows("count(2) -> 2", "flow(4) -> -1", "flow(5) -> 30", "flow(6) -> 31", "flow(7) -> -1",
                        "flow(398) -> -1", "read(4, 3, 1998, 1) -> 2", "flow(4) -> 1998", "flow(6) -> 2000");
    }

    private static void stagesAreErased() {
        plain("10 erase: how many of them had one").rows("erase(0, 400) -> 0", "read(10, 10, 50, 0) -> 0",
                "erase(5, 5) -> 0", "erase(20, 5) -> 0", "erase(5, 6) -> 1", "erase(5, 6) -> 0", "count(2) -> 9",
                "flow(10) -> -1", "flow(11) -> 50", "erase(19, 1) -> 1", "flow(18) -> 50", "flow(19) -> -1",
                "erase(14, 2) -> 2", "erase(0, 400) -> 6", "count(2) -> 0", "flow(11) -> -1",
                "read(399, 1, 3, 0) -> 0", "erase(399, 1) -> 1", "count(2) -> 0");
        plain("10 erase: a stage that is read anew").rows("read(3, 1, 30, 0)", "erase(3, 1) -> 1",
                "read(3, 1, 40, 0) -> 0", "flow(3) -> 40", "count(2) -> 1");
        plain("10 erase: ice stays").rows("freeze(3, 2, true)", "read(3, 1, 50, 0)", "erase(0, 400) -> 1",
                "count(3) -> 2", "read(3, 1, 50, 0) -> 0", "state(3) -> 2");
    }

    private static void eraseTakesDays0To399() {
        String title = "10 erase: day is 0 to 399, days is 1 to 400, the last day is not greater than 399";
        new Run(title).rows(Run.SOME_OF_ALL).rows("read(0, 400, 60, 0)")
                .illegalArgument(daysOutOfBounds("erase", ""));
        plain(title).rows("read(0, 400, 60, 0)", "erase(0, 1) -> 1", "erase(1, 1) -> 1", "erase(399, 1) -> 1",
                "erase(398, 1) -> 1", "erase(397, 3) -> 1", "flow(2) -> 60", "flow(396) -> 60", "erase(2, 2) -> 2",
                "erase(398, 2) -> 0", "erase(200, 200) -> 197", "erase(2, 398) -> 196", "count(2) -> 0",
                "read(0, 400, 60, 0) -> 0", "erase(1, 399) -> 399", "flow(0) -> 60", "read(0, 400, 60, 0) -> 1",
                "erase(0, 399) -> 399", "flow(399) -> 60", "read(0, 400, 60, 0) -> 1", "erase(0, 400) -> 400");
    }

    private static void daysFreeze() {
        plain("11 freeze: how many of them were not so before").rows("freeze(0, 400, false) -> 0",
                "freeze(10, 10, true) -> 10", "freeze(10, 10, true) -> 0", "freeze(15, 10, true) -> 5",
                "count(3) -> 15", "freeze(0, 10, false) -> 0", "freeze(0, 11, false) -> 1",
                "freeze(24, 2, false) -> 1", "freeze(25, 2, false) -> 0", "count(3) -> 13",
                "freeze(399, 1, true) -> 1", "freeze(0, 400, true) -> 386", "freeze(0, 400, true) -> 0",
                "count(3) -> 400", "freeze(0, 400, false) -> 400", "count(3) -> 0", "count(2) -> 0");
    }

    private static void freezeTakesDays0To399() {
        String title = "11 freeze: day is 0 to 399, days is 1 to 400, the last day is not greater than 399";
        new Run(title).rows(Run.SOME_OF_ALL).illegalArgument(daysOutOfBounds("freeze", ", true"))
                .rows("freeze(0, 400, true) -> 390").illegalArgument(daysOutOfBounds("freeze", ", false"));
        new Run(title).rows("freeze(0, 1, true) -> 1", "freeze(1, 1, true) -> 1", "freeze(399, 1, true) -> 1",
                "freeze(398, 1, true) -> 1", "count(3) -> 4", "freeze(397, 3, true) -> 1",
                "freeze(398, 2, false) -> 2", "freeze(200, 200, true) -> 199", "freeze(2, 398, true) -> 198",
                "freeze(1, 399, false) -> 399", "count(3) -> 1", "freeze(0, 399, true) -> 398", "count(3) -> 399",
                "freeze(0, 400, true) -> 1", "freeze(0, 400, false) -> 400");
    }

    private static void rulesAreSet() {
        plain("12 setRules: the factor before").rows("read(0, 1, 1000, 0)", "read(3, 1, 1300, 0)",
                "freeze(0, 1, true)", "flow(0) -> 600", "flow(1) -> 833", "setRules(37, 2) -> 60",
                "flow(0) -> 370", "flow(1) -> 680", "setRules(37, 1) -> 37", "flow(0) -> 370", "flow(1) -> -1",
                "setRules(40, 1) -> 37", "flow(0) -> 400", "flow(1) -> -1", "setRules(40, 2) -> 40",
                "flow(1) -> 700", "setRules(60, 5) -> 40");
    }

    private static void factorIsInBounds() {
        new Run("12 setRules: factor is 0 to 100").rows(Run.SOME_OF_ALL)
                .illegalArgument("setRules(-1, 7)", "setRules(101, 7)", "setRules(" + MIN + ", 7)",
                        "setRules(" + MAX + ", 7)", "setRules(-1, 61)", "setRules(101, -1)");
        plain("12 setRules: the ice factor at both ends").rows("read(0, 1, 1000, 0)", "freeze(0, 1, true)",
                "setRules(0, 5) -> 60", "flow(0) -> 0", "state(0) -> 2", "setRules(1, 5) -> 0", "flow(0) -> 10",
                "setRules(99, 5) -> 1", "flow(0) -> 990", "setRules(100, 5) -> 99", "flow(0) -> 1000",
                "state(0) -> 2", "setRules(100, 5) -> 100").illegalArgument("setRules(101, 5)", "setRules(-1, 5)")
                .rows("flow(0) -> 1000");
    }

    private static void limitIsInBounds() {
        new Run("12 setRules: limit is 0 to 60").rows(Run.SOME_OF_ALL)
                .illegalArgument("setRules(80, -1)", "setRules(80, 61)", "setRules(80, " + MIN + ")",
                        "setRules(80, " + MAX + ")");
        plain("12 setRules: the limit of gaps at both ends").rows("read(0, 1, 0, 0)", "read(2, 1, 20, 0)",
                "read(62, 1, 620, 0)", "read(123, 1, 1230, 0)", "read(185, 1, 1850, 0)",
                "setRules(60, 0) -> 60", "flow(1) -> -1", "state(1) -> 0", "setRules(60, 1) -> 60", "flow(1) -> 10",
                "state(1) -> 3", "flow(3) -> -1", "setRules(60, 58) -> 60", "flow(3) -> -1",
                "setRules(60, 59) -> 60", "flow(3) -> 30", "flow(61) -> 610", "flow(63) -> -1",
                "setRules(60, 60) -> 60", "flow(63) -> 630", "flow(122) -> 1220", "flow(124) -> -1",
                "flow(184) -> -1").illegalArgument("setRules(60, 61)", "setRules(60, -1)")
                .rows("flow(122) -> 1220", "flow(124) -> -1");
    }

    private static void statesOfDays() {
        plain("13 state: 0, 1, 2 and 3").rows("read(1, 3, 10, 0)", "read(6, 2, 20, 0)", "freeze(2, 4, true)",
                "state(0) -> 0", "state(1) -> 1", "state(2) -> 2", "state(3) -> 2", "state(4) -> 3",
                "state(5) -> 3", "state(6) -> 1", "state(7) -> 1", "state(8) -> 0", "state(399) -> 0",
                "read(399, 1, 0, 0)", "state(399) -> 1", "freeze(399, 1, true)", "state(399) -> 2",
                "freeze(0, 400, true)", "state(0) -> 0", "state(4) -> 3", "state(398) -> 0");
        plain("13 state: a flow of 0 is a flow").rows("read(0, 1, -500, 0)", "read(2, 1, -1, 0)",
                "freeze(2, 1, true)", "state(0) -> 1", "flow(0) -> 0", "state(1) -> 3", "flow(1) -> 0",
                "state(2) -> 2", "flow(2) -> 0", "state(3) -> 0", "flow(3) -> -1");
    }

    private static void stateAndFlowAreOfDays0To399() {
        new Run("13 state: day is 0 to 399").rows(Run.FLOW_IS_STAGE).rows("read(0, 400, 5, 1)", "state(0) -> 1",
                "state(1) -> 1", "state(398) -> 1", "state(399) -> 1")
                .illegalArgument("state(-1)", "state(400)", "state(" + MIN + ")", "state(" + MAX + ")");
        new Run("14 flow: day is 0 to 399").rows(Run.FLOW_IS_STAGE).rows("read(0, 400, 5, 1)", "flow(0) -> 5",
                "flow(1) -> 6", "flow(398) -> 403", "flow(399) -> 404")
                .illegalArgument("flow(-1)", "flow(400)", "flow(" + MIN + ")", "flow(" + MAX + ")");
    }

    private static void flowNeedsStage() {
        plain("14 flow: a day can have a stage, or none").rows("read(10, 1, 7, 0)", "flow(9) -> -1",
                "state(9) -> 0", "flow(10) -> 7", "state(10) -> 1", "flow(11) -> -1", "freeze(9, 3, true)",
                "flow(9) -> -1", "state(9) -> 0", "flow(10) -> 4", "state(10) -> 2", "state(11) -> 0",
                "erase(10, 1)", "flow(10) -> -1", "state(10) -> 0");
    }

    private static void flowNeedsCurveOfDay() {
        new Run("14 flow: told only if there is a curve of the day").rows("setRules(60, 0)", "read(0, 400, 5, 0)",
                "flow(0) -> -1", "flow(399) -> -1", "state(399) -> 0", "addCurve(50)", "addPoint(0, 0, 10)",
                "addPoint(0, 10, 20)", "flow(0) -> -1", "flow(49) -> -1", "state(49) -> 0", "flow(50) -> 15",
                "state(50) -> 1", "flow(51) -> 15", "flow(399) -> 15", "sum(0, 399, 0) -> 350", "addCurve(100)",
                "addPoint(1, 0, 100)", "addPoint(1, 10, 200)", "flow(99) -> 15", "flow(100) -> 150",
                "flow(101) -> 150", "addCurve(0)", "addPoint(2, 0, 0)", "addPoint(2, 5, 5)", "flow(0) -> 5",
                "flow(49) -> 5", "flow(50) -> 15", "flow(100) -> 150", "flow(399) -> 150");
    }

    private static void flowNeedsCompleteCurve() {
        new Run("14 flow: told only if the curve is complete").rows("setRules(60, 0)", "read(0, 400, 5, 0)",
                "addCurve(50)", "flow(50) -> -1", "state(50) -> 0", "addPoint(0, 5, 10)", "flow(50) -> -1",
                "state(50) -> 0", "addPoint(0, 6, 20)", "flow(50) -> 10", "state(50) -> 1", "addCurve(100)",
                "flow(99) -> 10", "flow(100) -> -1", "flow(399) -> -1", "addPoint(1, 0, 0)", "flow(100) -> -1",
                "freeze(100, 1, true)", "state(100) -> 0", "addPoint(1, 5, 50)", "flow(100) -> 30",
                "flow(101) -> 50", "flow(399) -> 50", "addPoint(1, 3, 10)", "flow(399) -> 50",
                "addPoint(1, 4, 40)", "addPoint(0, 4, 7)", "flow(99) -> 10", "flow(101) -> 50");
    }

    private static void flowIsOfStageThatCounts() {
        plain("14 flow: the stage that was read, less the shift").rows("addCurve(10)", "addPoint(1, 0, 100)",
                "addPoint(1, 10, 200)", "read(8, 5, 50, 10)", "setShift(9, 20)", "setShift(11, -30)",
                "flow(8) -> 30", "flow(9) -> 40", "flow(10) -> 850", "flow(11) -> 1200", "flow(12) -> 1300",
                "setShift(9, 60)", "flow(8) -> 0", "flow(9) -> 0", "setShift(9, 59)", "flow(9) -> 1",
                "setShift(9, 61)", "flow(9) -> 0", "state(9) -> 1");
        plain("14 flow: a day without a stage has no stage that counts").rows("setShift(9, -20)", "flow(9) -> -1");
    }

    private static void flowOfStagesFarBeyondCurve() {
        new Run("14 flow: the lowest and the highest stages that count").rows("addCurve(0)",
                "addPoint(0, -500, 7)", "addPoint(0, -499, 8)", "read(0, 1, -500, 0)", "read(1, 1, 2000, 0)",
                "setShift(0, 200)", "flow(0) -> 0", "setShift(0, 1)", "flow(0) -> 0", "setShift(0, 0)",
                "flow(0) -> 7", "setShift(0, -1)", "flow(0) -> 8", "setShift(0, -200)", "flow(0) -> 207",
                "flow(1) -> 2707", "setShift(1, 200)", "flow(0) -> 207", "flow(1) -> 2307");
    }

    private static void flowUnderIceIsLessened() {
        plain("14 flow: lessened on days of ice alone").rows("read(0, 3, 100, 0)", "freeze(1, 1, true)",
                "flow(0) -> 100", "flow(1) -> 60", "flow(2) -> 100", "state(0) -> 1", "state(1) -> 2",
                "state(2) -> 1", "setRules(25, 5)", "flow(0) -> 100", "flow(1) -> 25", "freeze(1, 1, false)",
                "flow(1) -> 100", "state(1) -> 1");
    }

    private static void flowUnderIceIsCut() {
        plain("14 flow: multiplied by the ice factor, divided by 100").rows("read(0, 3, 33, 1)",
                "freeze(0, 3, true)", "flow(0) -> 19", "flow(1) -> 20", "flow(2) -> 21", "setRules(1, 5)",
                "flow(0) -> 0", "read(0, 3, 99, 1)", "flow(0) -> 0", "flow(1) -> 1", "flow(2) -> 1",
                "setRules(99, 5)", "flow(0) -> 98", "flow(1) -> 99", "flow(2) -> 99");
    }

    /** A gap of some days with 0 ahead of it and 10 more each day, on day 20 and behind. */
    private static Run withGap(String title, int days) {
        return plain(title + ", a gap of " + days + " days").rows("read(19, 1, 0, 0)")
                .rows("read(" + (20 + days) + ", 1, " + 10 * (days + 1) + ", 0)");
    }

    private static void checkGap(Run run, int days, boolean isFilled) {
        run.rows("state(19) -> 1").due("state(" + (20 + days) + ")", 1);
        for (int k = 1; k <= days; k++) {
            run.due("flow(" + (19 + k) + ")", isFilled ? 10 * k : -1);
            run.due("state(" + (19 + k) + ")", isFilled ? 3 : 0);
        }
        run.due("sum(0, 399, 0)", isFilled ? days + 2 : 2);
    }

    private static void gapsAsLongAsLimitAreFilled() {
        for (int limit : new int[] {0, 1, 2, 5, 6, 31, 58, 59, 60}) {
            for (int days = Math.max(1, limit - 1); days <= limit + 2; days++) {
                Run run = withGap("14 flow: the limit of gaps is " + limit, days).due("setRules(60, " + limit + ")", 60);
                checkGap(run, days, days <= limit);
            }
        }
        for (int days = 4; days <= 7; days++) {
            checkGap(withGap("14 flow: the limit of gaps at first", days), days, days <= 5);
        }
        checkGap(withGap("14 flow: no gap at all", 0).rows("setRules(60, 0)"), 0, false);
    }

    private static void gapsOfOneDay() {
        plain("14 flow: gaps of one day").rows("setRules(60, 1)", "read(0, 1, 10, 0)", "read(2, 1, 20, 0)",
                "read(4, 1, 10, 0)", "read(7, 1, 10, 0)", "flow(1) -> 15", "flow(3) -> 15", "flow(5) -> -1",
                "flow(6) -> -1", "read(6, 1, 9, 0)", "flow(5) -> 10", "read(397, 1, 4, 0)", "read(399, 1, 8, 0)",
                "flow(396) -> -1", "flow(398) -> 6");
    }

    private static void gapsNeedToldFlowsAtBothEnds() {
        plain("14 flow: no told flow ahead of the gap, or behind it").rows("setRules(60, 60)", "read(2, 1, 10, 0)",
                "read(397, 1, 10, 0)", "flow(0) -> -1", "flow(1) -> -1", "state(1) -> 0", "flow(3) -> -1",
                "flow(396) -> -1", "flow(398) -> -1", "flow(399) -> -1", "state(399) -> 0", "read(1, 1, 10, 0)",
                "flow(0) -> -1", "read(398, 1, 10, 0)", "flow(399) -> -1", "read(0, 1, 30, 0)", "erase(1, 1)",
                "flow(1) -> 20", "state(1) -> 3", "read(399, 1, 20, 0)", "erase(398, 1)", "flow(398) -> 15",
                "state(398) -> 3");
        plain("14 flow: one told flow in all").rows("setRules(60, 60)", "read(200, 1, 10, 0)", "flow(199) -> -1",
                "flow(200) -> 10", "flow(201) -> -1", "sum(0, 399, 0) -> 1");
        plain("14 flow: no told flow in all").rows("setRules(60, 60)", "flow(0) -> -1", "flow(200) -> -1",
                "flow(399) -> -1", "sum(0, 399, 0) -> 0");
        plain("14 flow: a gap from day 1 to day 398").rows("setRules(60, 60)", "read(0, 1, 10, 0)",
                "read(399, 1, 10, 0)", "sum(0, 399, 0) -> 2", "flow(1) -> -1", "flow(398) -> -1");
    }

    private static void gapsAreAsLongAsPossible() {
        plain("14 flow: as many days as possible").rows("setRules(60, 3)", "read(0, 1, 0, 0)", "read(5, 1, 50, 0)",
                "flow(1) -> -1", "flow(2) -> -1", "flow(3) -> -1", "flow(4) -> -1", "read(9, 1, 90, 0)",
                "flow(4) -> -1", "flow(6) -> 60", "flow(7) -> 70", "flow(8) -> 80", "flow(10) -> -1",
                "read(1, 1, 10, 0)", "flow(2) -> 20", "flow(4) -> 40", "erase(5, 1)", "flow(2) -> -1",
                "flow(5) -> -1", "flow(8) -> -1", "setRules(60, 7)", "flow(5) -> 50", "flow(8) -> 80",
                "state(5) -> 3");
    }

    private static void gapsAreOfAllDaysWithoutToldFlow() {
        new Run("14 flow: a gap of days without stage, curve or complete curve").rows("addCurve(0)",
                "addPoint(0, 0, 0)", "addPoint(0, 10, 10)", "read(0, 400, 5, 0)", "addCurve(100)",
                "addCurve(104)", "addPoint(2, 0, 0)", "addPoint(2, 5, 55)", "addCurve(105)",
                "addPoint(3, 0, 0)", "flow(99) -> 5", "flow(100) -> 15", "state(100) -> 3", "flow(103) -> 45",
                "flow(104) -> 55", "flow(105) -> -1", "erase(99, 1)", "flow(99) -> 13", "flow(101) -> 30",
                "erase(98, 1)", "flow(97) -> 5", "flow(98) -> -1", "flow(103) -> -1", "setRules(60, 6)",
                "flow(98) -> 12", "flow(103) -> 47");
        new Run("14 flow: days ahead of all curves are in no gap").rows("read(0, 400, 5, 0)", "addCurve(3)",
                "addPoint(0, 0, 0)", "addPoint(0, 10, 10)", "setRules(60, 60)", "flow(0) -> -1", "flow(2) -> -1",
                "flow(3) -> 5");
    }

    private static void gapsAreFilledByToldFlowsAlone() {
        plain("14 flow: filled days are no told ones").rows("setRules(60, 2)", "read(0, 1, 0, 0)",
                "read(3, 1, 30, 0)", "read(7, 1, 70, 0)", "read(10, 1, 40, 0)", "flow(1) -> 10", "flow(2) -> 20",
                "flow(4) -> -1", "flow(5) -> -1", "flow(6) -> -1", "flow(8) -> 60", "flow(9) -> 50",
                "flow(11) -> -1", "erase(3, 1)", "flow(1) -> -1", "flow(2) -> -1", "flow(8) -> 60");
    }

    private static void gapsLieBetweenFlowsUnderIce() {
        plain("14 flow: the flows at the ends of a gap are lessened by ice, its own are not").rows(
                "read(0, 1, 100, 0)", "read(2, 1, 200, 0)", "flow(1) -> 150", "freeze(1, 1, true)",
                "flow(1) -> 150", "state(1) -> 3", "freeze(0, 1, true)", "flow(0) -> 60", "flow(1) -> 130",
                "freeze(2, 1, true)", "flow(1) -> 90", "flow(2) -> 120", "freeze(0, 1, false)", "flow(1) -> 110",
                "state(1) -> 3", "setRules(0, 5)", "flow(1) -> 50", "flow(2) -> 0", "state(2) -> 2");
    }

    private static void gapsAreCutTowardsZero() {
        plain("14 flow: the difference in a gap is cut towards 0").rows("read(0, 1, 10, 0)", "read(3, 1, 0, 0)",
                "flow(1) -> 7", "flow(2) -> 4", "read(0, 1, 0, 0)", "read(3, 1, 10, 0)", "flow(1) -> 3",
                "flow(2) -> 6", "read(3, 1, 1, 0)", "flow(1) -> 0", "flow(2) -> 0", "read(0, 1, 2, 0)",
                "flow(1) -> 2", "flow(2) -> 2", "read(3, 1, 2, 0)", "flow(1) -> 2", "flow(2) -> 2");
    }

    private static void flowsFollowEachChange() {
        new Run("14 flow: after each change").rows("flow(3) -> -1", "read(3, 1, 100, 0)", "flow(3) -> -1",
                "addCurve(0)", "flow(3) -> -1", "addPoint(0, 0, 0)", "flow(3) -> -1", "addPoint(0, 100, 1000)",
                "flow(3) -> 1000", "addPoint(0, 50, 100)", "flow(3) -> 1000", "read(3, 1, 40, 0)", "flow(3) -> 80",
                "setShift(9, 10)", "flow(3) -> 60", "setShift(9, 20)", "flow(3) -> 40", "freeze(3, 1, true)",
                "flow(3) -> 24", "setRules(50, 5)", "flow(3) -> 20", "freeze(3, 1, false)", "flow(3) -> 40",
                "read(1, 1, 20, 0)", "flow(2) -> 20", "setRules(50, 0)", "flow(2) -> -1", "setRules(50, 1)",
                "flow(2) -> 20", "erase(1, 1)", "flow(2) -> -1", "addCurve(2)", "flow(3) -> -1",
                "addPoint(1, 0, 0)", "addPoint(1, 1, 1)", "flow(3) -> 20", "erase(3, 1)", "flow(3) -> -1");
        String title = "14 flow: a change that is told by ";
        String[] questions = {"state(3) -> 2", "flow(3) -> 30", "sum(0, 399, 1) -> 30", "mean(0, 399) -> 30.0",
            "reached(50) -> 30", "peaks(30, 1) -> 1", "spell(31) -> 1"};
        String[] others = {"state(3) -> 0", "flow(3) -> -1", "sum(0, 399, 1) -> 0", "mean(0, 399) -> 0.0",
            "reached(50) -> -1", "peaks(30, 1) -> 0", "spell(31) -> 0"};
        for (int i = 0; i < questions.length; i++) {
            plain(title + questions[i]).rows("digest()", "read(3, 1, 50, 0)", "freeze(3, 1, true)", questions[i],
                    "erase(3, 1)", others[i]);
        }
    }

    private static void flowsAreReckonedIn64Bits() {
        new Run("14 flow: in 64 bits").rows("addCurve(0)", "addPoint(0, -500, 0)", "addPoint(0, -499, 1000000)",
                "setShift(0, -200)", "read(0, 400, 2000, 0)", "flow(0) -> 2700000000", "erase(1, 3)",
                "read(4, 1, -500, 0)", "flow(1) -> 2075000000", "flow(3) -> 825000000", "freeze(0, 1, true)",
                "flow(0) -> 1620000000", "setRules(99, 5)", "flow(0) -> 2673000000", "setRules(100, 60)",
                "flow(0) -> 2700000000", "erase(100, 60)", "read(160, 1, -500, 0)",
                "flow(159) -> " + (2700000000L - 2500000000L * 60 / 61),
                "sum(161, 399, 1) -> " + 239 * 2700000000L, "mean(161, 399) -> 2.7E9");
        // 33000000 * 65 still has 31 bits, 33000000 * 66 has more.
        new Run("14 flow: a flow under ice, multiplied in 64 bits").rows("addCurve(0)", "addPoint(0, 0, 0)",
                "addPoint(0, 1, 1000000)", "read(0, 1, 33, 0)", "freeze(0, 1, true)", "setRules(65, 5)",
                "flow(0) -> 21450000", "setRules(66, 5)", "flow(0) -> 21780000", "setRules(100, 5)",
                "flow(0) -> 33000000");
    }

    private static void dayQuestionsChangeNothing() {
        new Run("13 and 14: what only tells changes nothing").rows(Run.SOME_OF_ALL).changesNothing("state(0)",
                "state(45)", "state(399)", "flow(0)", "flow(32)", "flow(45)", "flow(399)");
    }
}
