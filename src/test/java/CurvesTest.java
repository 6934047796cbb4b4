/** Promises 1 to 6: a new object, addCurve, addPoint, flowBy, stageBy, curveOf. */
public final class CurvesTest {
    private static final Checks checks = new Checks();

    public static void main(String[] args) {
        newBookIsEmpty();
        newBooksAreApart();
        curvesAreNumbered();
        curvesAreRefused();
        pointsAreAdded();
        pointsAreRefused();
        pointsOfOneStageOrWrongOrder();
        twelvePointsAreTaken();
        flowFollowsPoints();
        flowIsCutTowardsZero();
        flowGoesOnBeyond();
        flowIsRefused();
        stageIsLowest();
        stageAgreesWithFlow();
        stageIsRefused();
        curveOfDay();
        checks.finish();
    }

    private static void newBookIsEmpty() {
        checks.part("1 a new object");
        GaugeBook book = new GaugeBook();
        for (int what = 0; what < 5; what++) {
            checks.equal("count(" + what + ")", 0, book.count(what));
        }
        for (int day = 0; day < 400; day++) {
            checks.equal("curveOf(" + day + ")", -1, book.curveOf(day));
            checks.equal("shift(" + day + ")", 0, book.shift(day));
            checks.equal("state(" + day + ")", 0, book.state(day));
            checks.equal("flow(" + day + ")", -1, book.flow(day));
        }
        checks.equal("setRules(60, 5)", 60, book.setRules(60, 5));
    }

    private static void newBooksAreApart() {
        checks.part("1 a new object beside another");
        GaugeBook first = new GaugeBook();
        GaugeBook second = new GaugeBook();
        long empty = second.digest();
        first.addCurve(0);
        first.addPoint(0, 0, 0);
        first.addPoint(0, 10, 100);
        first.read(0, 400, 5, 0);
        first.freeze(0, 400, true);
        first.setShift(3, 3);
        first.setRules(1, 1);
        first.measure(0, 0, 0);
        checks.equal("digest() of the other", empty, second.digest());
        checks.equal("digest() of a third", empty, new GaugeBook().digest());
    }

    private static void curvesAreNumbered() {
        checks.part("2 addCurve");
        GaugeBook book = new GaugeBook();
        int[] days = {399, 0, 200, 100, 300, 50};
        for (int i = 0; i < 6; i++) {
            checks.equal("addCurve(" + days[i] + ")", i, book.addCurve(days[i]));
            checks.equal("count(0)", i + 1, book.count(0));
        }
        for (int i = 0; i < 6; i++) {
            checks.equal("curveOf(" + days[i] + ")", i, book.curveOf(days[i]));
        }
    }

    private static void curvesAreRefused() {
        checks.part("2 addCurve refused");
        GaugeBook book = new GaugeBook();
        refuseCurve(book, -1, Checks.ARGUMENT);
        refuseCurve(book, 400, Checks.ARGUMENT);
        refuseCurve(book, Integer.MIN_VALUE, Checks.ARGUMENT);
        refuseCurve(book, Integer.MAX_VALUE, Checks.ARGUMENT);
        book.addCurve(7);
        book.addCurve(3);
        refuseCurve(book, 7, Checks.STATE);
        refuseCurve(book, 3, Checks.STATE);
        book.addCurve(8);
        book.addCurve(4);
        book.addCurve(399);
        refuseCurve(book, 399, Checks.STATE);
        checks.equal("addCurve(0)", 5, book.addCurve(0));
        refuseCurve(book, 1, Checks.STATE);
        refuseCurve(book, 0, Checks.STATE);
        refuseCurve(book, 400, Checks.ARGUMENT);
        checks.equal("count(0)", 6, book.count(0));
    }

    private static void refuseCurve(GaugeBook book, int day, Class<? extends RuntimeException> due) {
        checks.refused("addCurve(" + day + ")", book, due, () -> book.addCurve(day));
    }

    private static void pointsAreAdded() {
        checks.part("3 addPoint");
        GaugeBook book = new GaugeBook();
        book.addCurve(0);
        book.addCurve(1);
        checks.equal("addPoint(0, 2000, 1000000)", 1, book.addPoint(0, 2000, 1000000));
        checks.equal("addPoint(0, -500, 0)", 2, book.addPoint(0, -500, 0));
        checks.equal("addPoint(0, 0, 100)", 3, book.addPoint(0, 0, 100));
        checks.equal("addPoint(1, 0, 7)", 1, book.addPoint(1, 0, 7));
        checks.equal("addPoint(0, 100, 101)", 4, book.addPoint(0, 100, 101));
        checks.equal("flowBy(0, 2000)", 1000000, book.flowBy(0, 2000));
        checks.equal("flowBy(0, -500)", 0, book.flowBy(0, -500));
        checks.equal("flowBy(0, 0)", 100, book.flowBy(0, 0));
        checks.equal("flowBy(0, 100)", 101, book.flowBy(0, 100));
    }

    private static void pointsAreRefused() {
        checks.part("3 addPoint refused");
        GaugeBook book = new GaugeBook();
        refusePoint(book, 0, 0, 0, Checks.INDEX);
        book.addCurve(0);
        refusePoint(book, 1, 0, 0, Checks.INDEX);
        refusePoint(book, -1, 0, 0, Checks.INDEX);
        refusePoint(book, 1, -501, -1, Checks.INDEX);
        refusePoint(book, Integer.MAX_VALUE, 0, 0, Checks.INDEX);
        refusePoint(book, Integer.MIN_VALUE, 0, 0, Checks.INDEX);
        refusePoint(book, 0, -501, 0, Checks.ARGUMENT);
        refusePoint(book, 0, 2001, 0, Checks.ARGUMENT);
        refusePoint(book, 0, 0, -1, Checks.ARGUMENT);
        refusePoint(book, 0, 0, 1000001, Checks.ARGUMENT);
        refusePoint(book, 0, Integer.MIN_VALUE, 0, Checks.ARGUMENT);
        refusePoint(book, 0, 0, Integer.MAX_VALUE, Checks.ARGUMENT);
        book.addPoint(0, 5, 5);
        refusePoint(book, 0, 5, -1, Checks.ARGUMENT);
        refusePoint(book, 0, 5, 5, Checks.STATE);
        checks.equal("addPoint(0, 6, 6)", 2, book.addPoint(0, 6, 6));
    }

    private static void pointsOfOneStageOrWrongOrder() {
        checks.part("3 addPoint out of order");
        GaugeBook book = new GaugeBook();
        book.addCurve(0);
        book.addPoint(0, 10, 100);
        book.addPoint(0, 20, 200);
        refusePoint(book, 0, 10, 150, Checks.STATE);
        refusePoint(book, 0, 20, 150, Checks.STATE);
        refusePoint(book, 0, 20, 300, Checks.STATE);
        refusePoint(book, 0, 10, 50, Checks.STATE);
        refusePoint(book, 0, 15, 100, Checks.STATE);
        refusePoint(book, 0, 15, 200, Checks.STATE);
        refusePoint(book, 0, 15, 99, Checks.STATE);
        refusePoint(book, 0, 15, 201, Checks.STATE);
        refusePoint(book, 0, 9, 100, Checks.STATE);
        refusePoint(book, 0, 9, 101, Checks.STATE);
        refusePoint(book, 0, 21, 200, Checks.STATE);
        refusePoint(book, 0, 21, 199, Checks.STATE);
        checks.equal("addPoint(0, 15, 101)", 3, book.addPoint(0, 15, 101));
        checks.equal("addPoint(0, 16, 199)", 4, book.addPoint(0, 16, 199));
        checks.equal("addPoint(0, 9, 99)", 5, book.addPoint(0, 9, 99));
        checks.equal("addPoint(0, 21, 201)", 6, book.addPoint(0, 21, 201));
    }

    private static void twelvePointsAreTaken() {
        checks.part("3 addPoint up to 12");
        GaugeBook book = new GaugeBook();
        book.addCurve(0);
        book.addCurve(1);
        for (int i = 0; i < 12; i++) {
            int place = i * 5 % 12;
            checks.equal("addPoint for place " + place, i + 1, book.addPoint(0, place * 10, place * place));
        }
        for (int place = 0; place < 12; place++) {
            checks.equal("flowBy(0, " + place * 10 + ")", place * place, book.flowBy(0, place * 10));
        }
        checks.equal("flowBy(0, 4000)", 121 + 21 * 389, book.flowBy(0, 4000));
        checks.equal("stageBy(0, 121)", 110, book.stageBy(0, 121));
        checks.equal("stageBy(0, 122)", -9999, book.stageBy(0, 122));
        refusePoint(book, 0, 1000, 1000, Checks.STATE);
        refusePoint(book, 0, -10, 0, Checks.STATE);
        refusePoint(book, 0, 2001, 1000, Checks.ARGUMENT);
        checks.equal("addPoint(1, 1000, 1000)", 1, book.addPoint(1, 1000, 1000));
    }

    private static void refusePoint(GaugeBook book, int curve, int stage, int flow,
            Class<? extends RuntimeException> due) {
        checks.refused("addPoint(" + curve + ", " + stage + ", " + flow + ")", book, due,
                () -> book.addPoint(curve, stage, flow));
    }

    private static GaugeBook bookWithPoints(int... stagesAndFlows) {
        GaugeBook book = new GaugeBook();
        book.addCurve(0);
        for (int i = 0; i < stagesAndFlows.length; i += 2) {
            book.addPoint(0, stagesAndFlows[i], stagesAndFlows[i + 1]);
        }
        return book;
    }

    private static void flowFollowsPoints() {
        checks.part("4 flowBy");
        GaugeBook book = bookWithPoints(100, 50, 300, 5000, 200, 1000);
        checks.equal("flowBy(0, -2000)", 0, book.flowBy(0, -2000));
        checks.equal("flowBy(0, 99)", 0, book.flowBy(0, 99));
        checks.equal("flowBy(0, 100)", 50, book.flowBy(0, 100));
        checks.equal("flowBy(0, 150)", 525, book.flowBy(0, 150));
        checks.equal("flowBy(0, 200)", 1000, book.flowBy(0, 200));
        checks.equal("flowBy(0, 201)", 1040, book.flowBy(0, 201));
        checks.equal("flowBy(0, 300)", 5000, book.flowBy(0, 300));
        checks.equal("flowBy(0, 301)", 5040, book.flowBy(0, 301));
        checks.equal("flowBy(0, 4000)", 153000, book.flowBy(0, 4000));
    }

    private static void flowIsCutTowardsZero() {
        checks.part("4 flowBy, cut");
        GaugeBook book = bookWithPoints(-10, 3, -3, 8, 4, 10);
        checks.equal("flowBy(0, -9)", 3, book.flowBy(0, -9));
        checks.equal("flowBy(0, -8)", 4, book.flowBy(0, -8));
        checks.equal("flowBy(0, -4)", 7, book.flowBy(0, -4));
        checks.equal("flowBy(0, -3)", 8, book.flowBy(0, -3));
        checks.equal("flowBy(0, 0)", 8, book.flowBy(0, 0));
        checks.equal("flowBy(0, 1)", 9, book.flowBy(0, 1));
        checks.equal("flowBy(0, 7)", 10, book.flowBy(0, 7));
        checks.equal("flowBy(0, 8)", 11, book.flowBy(0, 8));
    }

    private static void flowGoesOnBeyond() {
        checks.part("4 flowBy, in 64 bits");
        GaugeBook book = bookWithPoints(-500, 0, -499, 1000000);
        checks.equal("flowBy(0, 4000)", 4500000000L, book.flowBy(0, 4000));
        checks.equal("flowBy(0, 2000)", 2500000000L, book.flowBy(0, 2000));
        GaugeBook wide = bookWithPoints(-500, 0, 2000, 1000000);
        checks.equal("flowBy(0, 4000)", 1800000, wide.flowBy(0, 4000));
        checks.equal("flowBy(0, 1999)", 999600, wide.flowBy(0, 1999));
    }

    private static void flowIsRefused() {
        checks.part("4 flowBy refused");
        GaugeBook book = new GaugeBook();
        refuseFlow(book, 0, 0, Checks.INDEX);
        book.addCurve(0);
        refuseFlow(book, 1, 9999, Checks.INDEX);
        refuseFlow(book, -1, 0, Checks.INDEX);
        refuseFlow(book, 6, 0, Checks.INDEX);
        refuseFlow(book, Integer.MIN_VALUE, 0, Checks.INDEX);
        refuseFlow(book, Integer.MAX_VALUE, 0, Checks.INDEX);
        refuseFlow(book, 0, 4001, Checks.ARGUMENT);
        refuseFlow(book, 0, -2001, Checks.ARGUMENT);
        refuseFlow(book, 0, 0, Checks.STATE);
        book.addPoint(0, 0, 0);
        refuseFlow(book, 0, 0, Checks.STATE);
        refuseFlow(book, 0, 4000, Checks.STATE);
        refuseFlow(book, 0, -2000, Checks.STATE);
        book.addPoint(0, 1, 1);
        checks.equal("flowBy(0, 0)", 0, book.flowBy(0, 0));
        refuseFlow(book, 0, 4001, Checks.ARGUMENT);
        refuseFlow(book, 0, -2001, Checks.ARGUMENT);
        checks.equal("flowBy(0, -2000)", 0, book.flowBy(0, -2000));
        checks.equal("flowBy(0, 4000)", 4000, book.flowBy(0, 4000));
    }

    private static void refuseFlow(GaugeBook book, int curve, int stage, Class<? extends RuntimeException> due) {
        checks.refused("flowBy(" + curve + ", " + stage + ")", book, due, () -> book.flowBy(curve, stage));
    }

    private static void stageIsLowest() {
        checks.part("5 stageBy");
        GaugeBook book = bookWithPoints(100, 50, 300, 5000, 200, 1000);
        checks.equal("stageBy(0, 0)", 100, book.stageBy(0, 0));
        checks.equal("stageBy(0, 50)", 100, book.stageBy(0, 50));
        checks.equal("stageBy(0, 51)", 101, book.stageBy(0, 51));
        checks.equal("stageBy(0, 59)", 101, book.stageBy(0, 59));
        checks.equal("stageBy(0, 60)", 102, book.stageBy(0, 60));
        checks.equal("stageBy(0, 1000)", 200, book.stageBy(0, 1000));
        checks.equal("stageBy(0, 1001)", 201, book.stageBy(0, 1001));
        checks.equal("stageBy(0, 1040)", 201, book.stageBy(0, 1040));
        checks.equal("stageBy(0, 1041)", 202, book.stageBy(0, 1041));
        checks.equal("stageBy(0, 5000)", 300, book.stageBy(0, 5000));
        checks.equal("stageBy(0, 5001)", -9999, book.stageBy(0, 5001));
        checks.equal("stageBy(0, 1000000)", -9999, book.stageBy(0, 1000000));
        GaugeBook flat = bookWithPoints(-500, 0, 2000, 1);
        checks.equal("stageBy(0, 1)", 2000, flat.stageBy(0, 1));
        GaugeBook steep = bookWithPoints(-500, 0, -499, 1000000);
        checks.equal("stageBy(0, 1)", -499, steep.stageBy(0, 1));
        checks.equal("stageBy(0, 0)", -500, steep.stageBy(0, 0));
    }

    private static void stageAgreesWithFlow() {
        checks.part("5 stageBy beside flowBy");
        GaugeBook book = bookWithPoints(-500, 3, -493, 5, -480, 400, 0, 401, 7, 1000, 2000, 1000000);
        for (int flow = 0; flow <= 1000000; flow += flow < 1200 ? 1 : 9973) {
            int stage = -500;
            while (book.flowBy(0, stage) < flow) {
                stage++;
            }
            checks.equal("stageBy(0, " + flow + ")", stage, book.stageBy(0, flow));
        }
    }

    private static void stageIsRefused() {
        checks.part("5 stageBy refused");
        GaugeBook book = new GaugeBook();
        refuseStage(book, 0, 0, Checks.INDEX);
        book.addCurve(0);
        refuseStage(book, 1, -1, Checks.INDEX);
        refuseStage(book, -1, 0, Checks.INDEX);
        refuseStage(book, Integer.MAX_VALUE, 0, Checks.INDEX);
        refuseStage(book, 0, -1, Checks.ARGUMENT);
        refuseStage(book, 0, 1000001, Checks.ARGUMENT);
        refuseStage(book, 0, 0, Checks.STATE);
        book.addPoint(0, 0, 10);
        refuseStage(book, 0, 0, Checks.STATE);
        refuseStage(book, 0, 1000000, Checks.STATE);
        refuseStage(book, 0, 1000001, Checks.ARGUMENT);
        book.addPoint(0, 1, 11);
        checks.equal("stageBy(0, 0)", 0, book.stageBy(0, 0));
        checks.equal("stageBy(0, 1000000)", -9999, book.stageBy(0, 1000000));
        refuseStage(book, 0, -1, Checks.ARGUMENT);
        refuseStage(book, 0, 1000001, Checks.ARGUMENT);
    }

    private static void refuseStage(GaugeBook book, int curve, int flow, Class<? extends RuntimeException> due) {
        checks.refused("stageBy(" + curve + ", " + flow + ")", book, due, () -> book.stageBy(curve, flow));
    }

    private static void curveOfDay() {
        checks.part("6 curveOf");
        GaugeBook book = new GaugeBook();
        book.addCurve(100);
        book.addCurve(50);
        book.addCurve(399);
        checks.equal("curveOf(0)", -1, book.curveOf(0));
        checks.equal("curveOf(49)", -1, book.curveOf(49));
        checks.equal("curveOf(50)", 1, book.curveOf(50));
        checks.equal("curveOf(99)", 1, book.curveOf(99));
        checks.equal("curveOf(100)", 0, book.curveOf(100));
        checks.equal("curveOf(398)", 0, book.curveOf(398));
        checks.equal("curveOf(399)", 2, book.curveOf(399));
        book.addCurve(0);
        checks.equal("curveOf(0)", 3, book.curveOf(0));
        checks.equal("curveOf(50)", 1, book.curveOf(50));
        for (int day : new int[] {-1, 400, Integer.MIN_VALUE, Integer.MAX_VALUE}) {
            checks.refused("curveOf(" + day + ")", book, Checks.ARGUMENT, () -> book.curveOf(day));
        }
    }
}
