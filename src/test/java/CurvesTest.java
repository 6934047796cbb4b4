/** Promises 1 to 6, and what the terms say of curves: a new object, addCurve, addPoint, flowBy, stageBy, curveOf. */
public final class CurvesTest {
    private static final int MIN = Integer.MIN_VALUE;
    private static final int MAX = Integer.MAX_VALUE;

    public static void main(String[] args) {
        newBookIsEmpty();
        newBookHasFirstRules();
        newBooksAreApart();
        curvesAreNumbered();
        curvesHoldFromDays0To399();
        sixCurvesAreTaken();
        noTwoCurvesFromOneDay();
        addCurveThrowsTheFirstNamed();
        pointsAreAdded();
        pointsNeedTheirCurve();
        pointsHaveStagesAndFlowsInBounds();
        twelvePointsAreTaken();
        pointsHaveStagesOfTheirOwn();
        higherStagesHaveGreaterFlows();
        addPointThrowsTheFirstNamed();
        flowFollowsPoints();
        flowBetweenPointsIsCut();
        flowBelowLowestIsZero();
        flowAboveHighestGoesOn();
        flowIsReckonedIn64Bits();
        flowNeedsItsCurve();
        flowTakesStagesInBounds();
        flowNeedsTwoPoints();
        flowByThrowsTheFirstNamed();
        stageIsLowest();
        stageAtLowestAndHighestPoint();
        stageAgreesWithFlow();
        stageNeedsItsCurve();
        stageTakesFlowsInBounds();
        stageNeedsTwoPoints();
        stageByThrowsTheFirstNamed();
        curveIsLatestNotBehindDay();
        curveOfTakesDays0To399();
        curveQuestionsChangeNothing();
        Run.finish();
    }

    private static void newBookIsEmpty() {
        String title = "1 GaugeBook: without curves, shifts and stages";
        new Run(title).rows("count(0) -> 0", "count(1) -> 0", "count(2) -> 0", "count(3) -> 0", "count(4) -> 0");
        new Run(title).outOfBounds("addPoint(0, 0, 0)", "flowBy(0, 0)", "stageBy(0, 0)", "deviation(0)",
                "wouldShift(0)");
        new Run(title).rows("sum(0, 399, 0) -> 0", "sum(0, 399, 1) -> 0", "sum(0, 399, 2) -> -1",
                "sum(0, 399, 3) -> -1", "sum(0, 399, 4) -> -1", "mean(0, 399) -> 0.0", "reached(1) -> -1",
                "reached(100) -> -1", "peaks(0, 1) -> 0", "spell(0) -> 0", "spell(" + Long.MAX_VALUE + ") -> 0");
        eachDayAnswers(title, "curveOf", -1);
        eachDayAnswers(title, "shift", 0);
        eachDayAnswers(title, "state", 0);
        eachDayAnswers(title, "flow", -1);
    }

    private static void eachDayAnswers(String title, String question, int due) {
        Run run = new Run(title);
        for (int day = 0; day < 400; day++) {
            run.due(question + "(" + day + ")", due);
        }
    }

    private static void newBookHasFirstRules() {
        new Run("1 GaugeBook: the ice factor is 60 at first").rows("setRules(60, 5) -> 60");
        new Run("1 GaugeBook: the limit of gaps is 5 at first").rows(Run.FLOW_IS_STAGE).rows(
                "read(0, 1, 10, 0)", "read(5, 1, 60, 0)", "read(11, 1, 120, 0)", "read(18, 1, 190, 0)",
                "flow(1) -> 20", "flow(4) -> 50", "flow(6) -> 70", "flow(10) -> 110", "flow(12) -> -1",
                "flow(17) -> -1");
    }

    private static void newBooksAreApart() {
        GaugeBook first = new GaugeBook();
        GaugeBook second = new GaugeBook();
        for (String row : Run.SOME_OF_ALL) {
            new Call(row.substring(0, row.indexOf(" ->"))).answer(first);
        }
        Run run = new Run("1 GaugeBook: a new one beside others");
        run.due("digest()", second.digest()).due("digest()", new GaugeBook().digest());
        Run.demand("a used book tells what a new one tells", first.digest() != second.digest());
    }

    private static void curvesAreNumbered() {
        new Run("2 addCurve: numbered from 0 in the order of their creation").rows(
                "addCurve(399) -> 0", "count(0) -> 1", "addCurve(0) -> 1", "count(0) -> 2", "addCurve(200) -> 2",
                "addCurve(100) -> 3", "addCurve(300) -> 4", "addCurve(50) -> 5", "count(0) -> 6",
                "curveOf(399) -> 0", "curveOf(0) -> 1", "curveOf(200) -> 2", "curveOf(100) -> 3",
                "curveOf(300) -> 4", "curveOf(50) -> 5");
    }

    private static void curvesHoldFromDays0To399() {
        new Run("2 addCurve: day is 0 to 399").rows(Run.SOME_OF_ALL)
                .illegalArgument("addCurve(-1)", "addCurve(400)", "addCurve(" + MIN + ")", "addCurve(" + MAX + ")")
                .rows("addCurve(0) -> 2", "addCurve(399) -> 3", "addCurve(1) -> 4", "addCurve(398) -> 5",
                        "curveOf(0) -> 2", "curveOf(1) -> 4", "curveOf(397) -> 1", "curveOf(398) -> 5",
                        "curveOf(399) -> 3");
    }

    private static void sixCurvesAreTaken() {
        new Run("2 addCurve: at most 6").rows("addCurve(7) -> 0", "addCurve(3) -> 1", "addCurve(8) -> 2",
                "addCurve(4) -> 3", "addCurve(399) -> 4", "addCurve(200) -> 5")
                .illegalState("addCurve(0)", "addCurve(5)", "addCurve(398)", "addCurve(7)", "addCurve(200)")
                .rows("count(0) -> 6", "addPoint(5, 0, 0) -> 1", "curveOf(2) -> -1", "curveOf(6) -> 3",
                        "curveOf(398) -> 5", "curveOf(399) -> 4")
                .outOfBounds("addPoint(6, 0, 0)");
    }

    private static void noTwoCurvesFromOneDay() {
        new Run("2 addCurve: no two from the same day").rows("addCurve(0) -> 0", "addCurve(200) -> 1")
                .illegalState("addCurve(200)", "addCurve(0)")
                .rows("addCurve(199) -> 2", "addCurve(201) -> 3", "addCurve(1) -> 4")
                .illegalState("addCurve(200)", "addCurve(199)", "addCurve(201)", "addCurve(1)")
                .rows("addCurve(399) -> 5");
        new Run("2 addCurve: no two from day 399").rows("addCurve(399) -> 0").illegalState("addCurve(399)")
                .rows("addCurve(398) -> 1");
        new Run("2 addCurve: the one that holds from this day keeps its points").rows(Run.SOME_OF_ALL)
                .illegalState("addCurve(10)", "addCurve(200)")
                .rows("addPoint(0, 50, 400) -> 4", "addPoint(1, 50, 400) -> 2");
    }

    private static void addCurveThrowsTheFirstNamed() {
        new Run("2 addCurve: a wrong day with 6 curves").rows("addCurve(0)", "addCurve(1)", "addCurve(2)",
                "addCurve(3)", "addCurve(4)", "addCurve(399)").illegalArgument("addCurve(-1)", "addCurve(400)");
    }

    private static void pointsAreAdded() {
        new Run("3 addPoint: the number of its points, not of another's").rows("addCurve(0) -> 0",
                "addCurve(1) -> 1", "addPoint(0, 2000, 1000000) -> 1", "addPoint(0, -500, 0) -> 2",
                "addPoint(0, 0, 100) -> 3", "addPoint(1, 0, 7) -> 1", "addPoint(0, 100, 101) -> 4",
                "addPoint(1, 1, 9) -> 2", "flowBy(0, 2000) -> 1000000", "flowBy(0, -500) -> 0",
                "flowBy(0, 0) -> 100", "flowBy(0, 100) -> 101", "flowBy(1, 0) -> 7", "flowBy(1, 1) -> 9");
    }

    private static void pointsNeedTheirCurve() {
        String title = "3 addPoint: there is such a curve";
        new Run(title).outOfBounds("addPoint(-1, 0, 0)", "addPoint(0, 0, 0)", "addPoint(1, 0, 0)");
        new Run(title).rows("addCurve(5)").outOfBounds("addPoint(-1, 0, 0)", "addPoint(1, 0, 0)",
                "addPoint(" + MIN + ", 0, 0)", "addPoint(" + MAX + ", 0, 0)").rows("addPoint(0, 0, 0) -> 1");
        new Run(title).rows(Run.SOME_OF_ALL).outOfBounds("addPoint(-1, 5, 50)", "addPoint(2, 5, 50)")
                .rows("addPoint(1, 5, 50) -> 2", "addPoint(0, 5, 50) -> 4");
        new Run(title).rows("addCurve(0)", "addCurve(1)", "addCurve(2)", "addCurve(3)", "addCurve(4)",
                "addCurve(5)", "addPoint(5, 3, 4) -> 1", "addPoint(4, 3, 4) -> 1")
                .outOfBounds("addPoint(6, 3, 4)", "addPoint(7, 3, 4)");
    }

    private static void pointsHaveStagesAndFlowsInBounds() {
        new Run("3 addPoint: stage is -500 to 2000").rows(Run.SOME_OF_ALL)
                .illegalArgument("addPoint(1, -501, 1)", "addPoint(1, 2001, 10000)", "addPoint(0, 2001, 10000)",
                        "addPoint(1, " + MIN + ", 1)", "addPoint(1, " + MAX + ", 10000)")
                .rows("addPoint(1, -500, 1) -> 2", "addPoint(1, -499, 2) -> 3", "addPoint(1, 2000, 10000) -> 4",
                        "addPoint(1, 1999, 9999) -> 5", "flowBy(1, -500) -> 1", "flowBy(1, -499) -> 2",
                        "flowBy(1, 1999) -> 9999", "flowBy(1, 2000) -> 10000");
        new Run("3 addPoint: flow is 0 to 1000000").rows(Run.SOME_OF_ALL)
                .illegalArgument("addPoint(1, -450, -1)", "addPoint(1, 1500, 1000001)",
                        "addPoint(0, 1500, 1000001)", "addPoint(1, -450, " + MIN + ")",
                        "addPoint(1, 1500, " + MAX + ")")
                .rows("addPoint(1, -450, 0) -> 2", "addPoint(1, -449, 1) -> 3", "addPoint(1, 1500, 1000000) -> 4",
                        "addPoint(1, 1499, 999999) -> 5", "flowBy(1, -450) -> 0", "flowBy(1, -449) -> 1",
                        "flowBy(1, 1499) -> 999999", "flowBy(1, 1500) -> 1000000");
    }

    private static void twelvePointsAreTaken() {
        Run run = new Run("3 addPoint: at most 12").rows("addCurve(0)", "addCurve(1)");
        for (int i = 0; i < 12; i++) {
            int place = i * 5 % 12;
            run.due("addPoint(0, " + place * 10 + ", " + (place * place + 3) + ")", i + 1);
        }
        run.illegalState("addPoint(0, 1000, 1000)", "addPoint(0, -10, 0)", "addPoint(0, 45, 20)",
                "addPoint(0, 110, 124)", "addPoint(0, 0, 3)", "addPoint(0, 111, 125)");
        for (int place = 0; place < 12; place++) {
            run.due("flowBy(0, " + place * 10 + ")", place * place + 3);
        }
        run.rows("flowBy(0, 4000) -> 8293", "flowBy(0, 105) -> 113", "stageBy(0, 124) -> 110",
                "stageBy(0, 125) -> -9999", "addPoint(1, 1000, 1000) -> 1", "addPoint(1, 1001, 1001) -> 2");
        Run rising = new Run("3 addPoint: the 12th above all others").rows("addCurve(0)");
        Run falling = new Run("3 addPoint: the 12th below all others").rows("addCurve(0)");
        for (int i = 0; i < 12; i++) {
            rising.due("addPoint(0, " + i + ", " + i * 3 + ")", i + 1);
            falling.due("addPoint(0, " + -i + ", " + (99 - i * 3) + ")", i + 1);
        }
        rising.illegalState("addPoint(0, 12, 36)").rows("flowBy(0, 11) -> 33", "flowBy(0, 12) -> 36",
                "stageBy(0, 33) -> 11", "stageBy(0, 34) -> -9999");
        falling.illegalState("addPoint(0, -12, 63)").rows("flowBy(0, -11) -> 66", "flowBy(0, -12) -> 0",
                "stageBy(0, 0) -> -11", "stageBy(0, 99) -> 0");
    }

    private static void pointsHaveStagesOfTheirOwn() {
        new Run("3 addPoint: no point with this stage").rows("addCurve(0)", "addCurve(1)", "addPoint(0, 10, 100)",
                "addPoint(0, 20, 200)")
                .illegalState("addPoint(0, 10, 100)", "addPoint(0, 20, 200)", "addPoint(0, 10, 150)",
                        "addPoint(0, 20, 150)", "addPoint(0, 20, 300)", "addPoint(0, 10, 50)")
                .rows("addPoint(0, 9, 99) -> 3", "addPoint(0, 11, 101) -> 4", "addPoint(0, 19, 199) -> 5",
                        "addPoint(0, 21, 201) -> 6", "addPoint(1, 10, 100) -> 1");
        new Run("3 addPoint: the only point's stage").rows("addCurve(0)", "addPoint(0, 5, 5)")
                .illegalState("addPoint(0, 5, 5)", "addPoint(0, 5, 4)", "addPoint(0, 5, 6)")
                .rows("addPoint(0, 6, 6) -> 2", "flowBy(0, 5) -> 5");
    }

    private static void higherStagesHaveGreaterFlows() {
        new Run("3 addPoint: a higher stage has a greater flow").rows("addCurve(0)", "addPoint(0, 10, 100)",
                "addPoint(0, 20, 200)")
                .illegalState("addPoint(0, 15, 99)", "addPoint(0, 15, 100)", "addPoint(0, 15, 200)",
                        "addPoint(0, 15, 201)", "addPoint(0, 9, 100)", "addPoint(0, 9, 101)",
                        "addPoint(0, 9, 150)", "addPoint(0, -500, 1000000)", "addPoint(0, 21, 200)",
                        "addPoint(0, 21, 199)", "addPoint(0, 21, 150)", "addPoint(0, 2000, 0)")
                .rows("addPoint(0, 15, 101) -> 3")
                .illegalState("addPoint(0, 14, 101)", "addPoint(0, 16, 101)")
                .rows("addPoint(0, 16, 199) -> 4", "addPoint(0, 9, 99) -> 5", "addPoint(0, 21, 201) -> 6",
                        "flowBy(0, 9) -> 99", "flowBy(0, 15) -> 101", "flowBy(0, 16) -> 199",
                        "flowBy(0, 21) -> 201");
        new Run("3 addPoint: the flow beside a single point").rows("addCurve(0)", "addPoint(0, 5, 50)")
                .illegalState("addPoint(0, 6, 50)", "addPoint(0, 6, 49)", "addPoint(0, 4, 50)",
                        "addPoint(0, 4, 51)")
                .rows("addPoint(0, 6, 51) -> 2", "addPoint(0, 4, 49) -> 3");
        new Run("3 addPoint: the flow below 0 and above 1000000 has no room").rows("addCurve(0)",
                "addPoint(0, 0, 0)", "addPoint(0, 100, 1000000)")
                .illegalState("addPoint(0, -1, 0)", "addPoint(0, 101, 1000000)");
    }

    private static void addPointThrowsTheFirstNamed() {
        Run run = new Run("3 addPoint: the exception that is named first").rows("addCurve(0)", "addCurve(9)",
                "addPoint(1, 5, 5)");
        for (int i = 0; i < 12; i++) {
            run.rows("addPoint(0, " + i + ", " + i + ")");
        }
        run.outOfBounds("addPoint(2, 5, -1)", "addPoint(2, -501, 5)", "addPoint(-1, 2001, 1000001)")
                .illegalArgument("addPoint(0, 5, -1)", "addPoint(0, 2001, 5)", "addPoint(0, -501, 0)",
                        "addPoint(1, 5, -1)", "addPoint(1, 5, 1000001)", "addPoint(1, -501, 6)")
                .illegalState("addPoint(0, 5, 5)", "addPoint(1, 5, 6)");
    }

    private static Run withPoints(String title, int... stagesAndFlows) {
        Run run = new Run(title).rows("addCurve(0)");
        for (int i = 0; i < stagesAndFlows.length; i += 2) {
            run.due("addPoint(0, " + stagesAndFlows[i] + ", " + stagesAndFlows[i + 1] + ")", i / 2 + 1);
        }
        return run;
    }

    private static void flowFollowsPoints() {
        withPoints("4 flowBy: at and between points", 100, 50, 300, 5000, 200, 1000).rows(
                "flowBy(0, 99) -> 0", "flowBy(0, 100) -> 50", "flowBy(0, 101) -> 59", "flowBy(0, 150) -> 525",
                "flowBy(0, 199) -> 990", "flowBy(0, 200) -> 1000", "flowBy(0, 201) -> 1040",
                "flowBy(0, 299) -> 4960", "flowBy(0, 300) -> 5000", "flowBy(0, 301) -> 5040");
        withPoints("4 flowBy: points next to each other", 7, 100, 8, 300, 9, 301).rows("flowBy(0, 6) -> 0",
                "flowBy(0, 7) -> 100", "flowBy(0, 8) -> 300", "flowBy(0, 9) -> 301", "flowBy(0, 10) -> 302");
        new Run("4 flowBy: each curve has its own points").rows("addCurve(0)", "addCurve(10)",
                "addPoint(0, 0, 0)", "addPoint(1, 0, 500)", "addPoint(0, 10, 10)", "addPoint(1, 10, 510)",
                "flowBy(0, 5) -> 5", "flowBy(1, 5) -> 505");
    }

    private static void flowBetweenPointsIsCut() {
        withPoints("4 flowBy: divided is cut towards 0", -10, 3, -3, 8, 4, 10).rows("flowBy(0, -11) -> 0",
                "flowBy(0, -10) -> 3", "flowBy(0, -9) -> 3", "flowBy(0, -8) -> 4", "flowBy(0, -4) -> 7",
                "flowBy(0, -3) -> 8", "flowBy(0, 0) -> 8", "flowBy(0, 1) -> 9", "flowBy(0, 4) -> 10",
                "flowBy(0, 7) -> 10", "flowBy(0, 8) -> 11");
        withPoints("4 flowBy: a flow that rises by 1 in all", -500, 0, 2000, 1).rows("flowBy(0, -500) -> 0",
                "flowBy(0, 1999) -> 0", "flowBy(0, 2000) -> 1", "flowBy(0, 4000) -> 1");
    }

    private static void flowBelowLowestIsZero() {
        withPoints("4 flowBy: below the lowest point 0", 100, 50, 200, 1000).rows("flowBy(0, 99) -> 0",
                "flowBy(0, 98) -> 0", "flowBy(0, -2000) -> 0", "flowBy(0, 100) -> 50", "flowBy(0, 101) -> 59");
        withPoints("4 flowBy: below the lowest point there may be", -500, 1000, -499, 2000).rows(
                "flowBy(0, -501) -> 0", "flowBy(0, -500) -> 1000", "flowBy(0, -499) -> 2000");
    }

    private static void flowAboveHighestGoesOn() {
        withPoints("4 flowBy: above the highest as between the two highest", 100, 50, 300, 5000, 200, 1000).rows(
                "flowBy(0, 299) -> 4960", "flowBy(0, 300) -> 5000", "flowBy(0, 301) -> 5040",
                "flowBy(0, 2000) -> 73000", "flowBy(0, 3999) -> 152960", "flowBy(0, 4000) -> 153000");
        withPoints("4 flowBy: beyond the highest stage there may be, cut", 0, 0, 1997, 10, 2000, 20).rows(
                "flowBy(0, 1999) -> 16", "flowBy(0, 2000) -> 20", "flowBy(0, 2001) -> 23",
                "flowBy(0, 2002) -> 26", "flowBy(0, 2003) -> 30");
    }

    private static void flowIsReckonedIn64Bits() {
        withPoints("4 flowBy: a flow of more than 32 bits", -500, 0, -499, 1000000).rows(
                "flowBy(0, 1647) -> 2147000000", "flowBy(0, 1648) -> 2148000000",
                "flowBy(0, 3794) -> 4294000000", "flowBy(0, 3795) -> 4295000000",
                "flowBy(0, 2000) -> 2500000000", "flowBy(0, 4000) -> 4500000000");
        // 1000000 * 2147 still has 31 bits, 1000000 * 2148 has more.
        withPoints("4 flowBy: a product of more than 32 bits", -500, 0, 2000, 1000000).rows(
                "flowBy(0, 1647) -> 858800", "flowBy(0, 1648) -> 859200", "flowBy(0, 1999) -> 999600",
                "flowBy(0, 4000) -> 1800000");
    }

    private static void flowNeedsItsCurve() {
        String title = "4 flowBy: there is such a curve";
        new Run(title).outOfBounds("flowBy(-1, 0)", "flowBy(0, 0)", "flowBy(1, 0)");
        new Run(title).rows(Run.SOME_OF_ALL).rows("addPoint(1, 5, 10)", "flowBy(0, 50) -> 500",
                "flowBy(1, 5) -> 10")
                .outOfBounds("flowBy(-1, 0)", "flowBy(2, 0)", "flowBy(" + MIN + ", 0)", "flowBy(" + MAX + ", 0)");
        new Run(title).rows("addCurve(0)", "addCurve(1)", "addCurve(2)", "addCurve(3)", "addCurve(4)",
                "addCurve(5)", "addPoint(5, 0, 7)", "addPoint(5, 1, 8)", "flowBy(5, 0) -> 7")
                .outOfBounds("flowBy(6, 0)", "flowBy(7, 0)").illegalState("flowBy(4, 0)");
    }

    private static void flowTakesStagesInBounds() {
        withPoints("4 flowBy: stage is -2000 to 4000", 0, 7, 1, 8).rows("flowBy(0, -2000) -> 0",
                "flowBy(0, -1999) -> 0", "flowBy(0, 3999) -> 4006", "flowBy(0, 4000) -> 4007")
                .illegalArgument("flowBy(0, -2001)", "flowBy(0, 4001)", "flowBy(0, " + MIN + ")",
                        "flowBy(0, " + MAX + ")");
    }

    private static void flowNeedsTwoPoints() {
        new Run("4 flowBy: complete with at least two points").rows("addCurve(0)")
                .illegalState("flowBy(0, 5)", "flowBy(0, -2000)", "flowBy(0, 4000)")
                .rows("addPoint(0, 5, 50)")
                .illegalState("flowBy(0, 4)", "flowBy(0, 5)", "flowBy(0, 6)")
                .rows("addPoint(0, 6, 60) -> 2", "flowBy(0, 4) -> 0", "flowBy(0, 5) -> 50", "flowBy(0, 6) -> 60",
                        "addPoint(0, 7, 80) -> 3", "flowBy(0, 7) -> 80");
    }

    private static void flowByThrowsTheFirstNamed() {
        new Run("4 flowBy: the exception that is named first").rows("addCurve(0)")
                .outOfBounds("flowBy(1, 4001)", "flowBy(-1, -2001)")
                .illegalArgument("flowBy(0, 4001)", "flowBy(0, -2001)").illegalState("flowBy(0, 0)");
    }

    private static void stageIsLowest() {
        withPoints("5 stageBy: the lowest stage with at least this flow", 100, 50, 300, 5000, 200, 1000).rows(
                "stageBy(0, 51) -> 101", "stageBy(0, 59) -> 101", "stageBy(0, 60) -> 102",
                "stageBy(0, 989) -> 199", "stageBy(0, 990) -> 199", "stageBy(0, 991) -> 200",
                "stageBy(0, 1000) -> 200", "stageBy(0, 1001) -> 201", "stageBy(0, 1040) -> 201",
                "stageBy(0, 1041) -> 202", "stageBy(0, 4960) -> 299", "stageBy(0, 4961) -> 300");
        withPoints("5 stageBy: a flow that rises by 1 in all", -500, 0, 2000, 1).rows("stageBy(0, 0) -> -500",
                "stageBy(0, 1) -> 2000", "stageBy(0, 2) -> -9999");
        withPoints("5 stageBy: a flow that rises at once", -500, 0, -499, 1000000).rows("stageBy(0, 0) -> -500",
                "stageBy(0, 1) -> -499", "stageBy(0, 999999) -> -499", "stageBy(0, 1000000) -> -499");
        // 1000000 * 2147 still has 31 bits, 1000000 * 2148 has more; here flow * stages is as large.
        withPoints("5 stageBy: in 64 bits", -500, 0, 2000, 1000000).rows("stageBy(0, 858992) -> 1648",
                "stageBy(0, 858994) -> 1648", "stageBy(0, 859200) -> 1648", "stageBy(0, 859201) -> 1649",
                "stageBy(0, 999600) -> 1999", "stageBy(0, 999601) -> 2000", "stageBy(0, 1000000) -> 2000");
    }

    private static void stageAtLowestAndHighestPoint() {
        withPoints("5 stageBy: from the lowest point on, to the highest", 100, 50, 300, 5000, 200, 1000).rows(
                "stageBy(0, 0) -> 100", "stageBy(0, 1) -> 100", "stageBy(0, 49) -> 100", "stageBy(0, 50) -> 100",
                "stageBy(0, 51) -> 101", "stageBy(0, 4999) -> 300", "stageBy(0, 5000) -> 300",
                "stageBy(0, 5001) -> -9999", "stageBy(0, 5002) -> -9999", "stageBy(0, 1000000) -> -9999",
                "addPoint(0, 301, 5001) -> 4", "stageBy(0, 5001) -> 301", "stageBy(0, 5002) -> -9999");
        withPoints("5 stageBy: the highest point has the greatest flow there may be", -500, 999999, 2000, 1000000)
                .rows("stageBy(0, 999998) -> -500", "stageBy(0, 999999) -> -500", "stageBy(0, 1000000) -> 2000");
    }

    private static void stageAgreesWithFlow() {
        int[] points = {-500, 3, -493, 5, -480, 400, 0, 401, 7, 1000, 2000, 1000000};
        String title = "5 stageBy: its flow is at least this, and that of the stage below is not";
        Run run = withPoints(title, points);
        for (int flow = 0; flow <= 1000000; flow += flow < 1200 ? 1 : 9973) {
            if (run.calls() > Run.MOST_CALLS - 3) {
                run = withPoints(title, points);
            }
            long stage = run.ask("stageBy(0, " + flow + ")");
            boolean reaches = run.ask("flowBy(0, " + stage + ")") >= flow;
            boolean isLowest = stage == -500 || run.ask("flowBy(0, " + (stage - 1) + ")") < flow;
            Run.demand("stageBy(0, " + flow + ") is not the lowest stage: " + stage, reaches && isLowest);
        }
    }

    private static void stageNeedsItsCurve() {
        String title = "5 stageBy: there is such a curve";
        new Run(title).outOfBounds("stageBy(-1, 0)", "stageBy(0, 0)", "stageBy(1, 0)");
        new Run(title).rows(Run.SOME_OF_ALL).rows("addPoint(1, 5, 10)", "stageBy(0, 500) -> 50",
                "stageBy(1, 10) -> 5")
                .outOfBounds("stageBy(-1, 0)", "stageBy(2, 0)", "stageBy(" + MIN + ", 0)",
                        "stageBy(" + MAX + ", 0)");
        new Run(title).rows("addCurve(0)", "addCurve(1)", "addCurve(2)", "addCurve(3)", "addCurve(4)",
                "addCurve(5)", "addPoint(5, 3, 7)", "addPoint(5, 4, 8)", "stageBy(5, 0) -> 3")
                .outOfBounds("stageBy(6, 0)", "stageBy(7, 0)").illegalState("stageBy(4, 0)");
    }

    private static void stageTakesFlowsInBounds() {
        withPoints("5 stageBy: flow is 0 to 1000000", 0, 1, 999, 1000000).rows("stageBy(0, 0) -> 0",
                "stageBy(0, 1) -> 0", "stageBy(0, 999999) -> 999", "stageBy(0, 1000000) -> 999")
                .illegalArgument("stageBy(0, -1)", "stageBy(0, 1000001)", "stageBy(0, " + MIN + ")",
                        "stageBy(0, " + MAX + ")");
    }

    private static void stageNeedsTwoPoints() {
        new Run("5 stageBy: complete with at least two points").rows("addCurve(0)")
                .illegalState("stageBy(0, 0)", "stageBy(0, 1000000)")
                .rows("addPoint(0, 5, 50)")
                .illegalState("stageBy(0, 0)", "stageBy(0, 50)", "stageBy(0, 51)")
                .rows("addPoint(0, 6, 60) -> 2", "stageBy(0, 0) -> 5", "stageBy(0, 50) -> 5",
                        "stageBy(0, 51) -> 6", "stageBy(0, 61) -> -9999");
    }

    private static void stageByThrowsTheFirstNamed() {
        new Run("5 stageBy: the exception that is named first").rows("addCurve(0)")
                .outOfBounds("stageBy(1, -1)", "stageBy(-1, 1000001)")
                .illegalArgument("stageBy(0, -1)", "stageBy(0, 1000001)").illegalState("stageBy(0, 0)");
    }

    private static void curveIsLatestNotBehindDay() {
        new Run("6 curveOf: that of the latest day that is not behind it").rows("addCurve(100) -> 0",
                "addCurve(50) -> 1", "addCurve(399) -> 2", "curveOf(0) -> -1", "curveOf(49) -> -1",
                "curveOf(50) -> 1", "curveOf(51) -> 1", "curveOf(99) -> 1", "curveOf(100) -> 0",
                "curveOf(101) -> 0", "curveOf(398) -> 0", "curveOf(399) -> 2", "addCurve(0) -> 3",
                "curveOf(0) -> 3", "curveOf(49) -> 3", "curveOf(50) -> 1", "addCurve(51) -> 4",
                "curveOf(50) -> 1", "curveOf(51) -> 4", "curveOf(99) -> 4", "addCurve(99) -> 5",
                "curveOf(98) -> 4", "curveOf(99) -> 5", "curveOf(100) -> 0");
    }

    private static void curveOfTakesDays0To399() {
        new Run("6 curveOf: day is 0 to 399").rows(Run.SOME_OF_ALL).rows("curveOf(0) -> -1", "curveOf(1) -> -1",
                "curveOf(398) -> 1", "curveOf(399) -> 1")
                .illegalArgument("curveOf(-1)", "curveOf(400)", "curveOf(" + MIN + ")", "curveOf(" + MAX + ")");
    }

    private static void curveQuestionsChangeNothing() {
        new Run("4 to 6: what only tells changes nothing").rows(Run.SOME_OF_ALL).changesNothing("flowBy(0, 50)",
                "flowBy(0, 4000)", "stageBy(0, 500)", "stageBy(0, 1000000)", "curveOf(0)", "curveOf(399)");
    }
}
