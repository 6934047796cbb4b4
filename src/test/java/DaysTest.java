/** Promises 9 to 14: read, erase, freeze, setRules, state, flow. */
public final class DaysTest {
    private static final Checks checks = new Checks();

    public static void main(String[] args) {
        stagesAreRead();
        stagesRiseAndFall();
        readingIsRefused();
        stagesAreErased();
        erasingIsRefused();
        daysFreeze();
        freezingIsRefused();
        rulesAreSet();
        rulesAreRefused();
        statesOfDays();
        stateAndFlowAreRefused();
        flowNeedsCompleteCurve();
        flowUsesShiftAndCurveOfDay();
        flowUnderIce();
        gapsAreFilled();
        gapsAreMeasuredAgainstLimit();
        gapsNeedBothEnds();
        gapsAreCutTowardsZero();
        flowsFollowEachChange();
        flowsAreWide();
        checks.finish();
    }

    /** A curve from day 0 on whose flow is the stage, from stage 0 on. */
    private static GaugeBook plainBook() {
        GaugeBook book = new GaugeBook();
        book.addCurve(0);
        book.addPoint(0, 0, 0);
        book.addPoint(0, 1, 1);
        return book;
    }

    private static void stagesAreRead() {
        checks.part("9 read");
        GaugeBook book = plainBook();
        checks.equal("read(10, 5, 100, 0)", 0, book.read(10, 5, 100, 0));
        checks.equal("count(2)", 5, book.count(2));
        checks.equal("read(12, 5, 200, 0)", 3, book.read(12, 5, 200, 0));
        checks.equal("count(2)", 7, book.count(2));
        checks.equal("flow(9)", -1, book.flow(9));
        checks.equal("flow(11)", 100, book.flow(11));
        checks.equal("flow(12)", 200, book.flow(12));
        checks.equal("flow(16)", 200, book.flow(16));
        checks.equal("flow(17)", -1, book.flow(17));
        checks.equal("read(0, 400, 2000, 0)", 7, book.read(0, 400, 2000, 0));
        checks.equal("read(0, 400, -500, 0)", 400, book.read(0, 400, -500, 0));
        checks.equal("read(399, 1, 2000, 0)", 1, book.read(399, 1, 2000, 0));
        checks.equal("count(2)", 400, book.count(2));
        checks.equal("flow(399)", 2000, book.flow(399));
    }

    private static void stagesRiseAndFall() {
        checks.part("9 read, rising and falling");
        GaugeBook book = plainBook();
        book.read(0, 4, 10, 3);
        checks.equal("flow(0)", 10, book.flow(0));
        checks.equal("flow(1)", 13, book.flow(1));
        checks.equal("flow(3)", 19, book.flow(3));
        book.read(0, 4, 19, -6);
        checks.equal("flow(0)", 19, book.flow(0));
        checks.equal("flow(3)", 1, book.flow(3));
        book.read(0, 2, -500, 2500);
        checks.equal("flow(0)", 0, book.flow(0));
        checks.equal("flow(1)", 2000, book.flow(1));
        book.read(1, 2, 2000, -2500);
        checks.equal("flow(1)", 2000, book.flow(1));
        checks.equal("flow(2)", 0, book.flow(2));
        checks.equal("read(0, 400, 5, 5)", 4, book.read(0, 400, 5, 5));
        checks.equal("flow(399)", 2000, book.flow(399));
        checks.equal("read(7, 1, 7, MAX)", 1, book.read(7, 1, 7, Integer.MAX_VALUE));
        checks.equal("flow(7)", 7, book.flow(7));
        checks.equal("read(7, 1, 8, MIN)", 1, book.read(7, 1, 8, Integer.MIN_VALUE));
        checks.equal("flow(7)", 8, book.flow(7));
        checks.equal("flow(8)", 45, book.flow(8));
    }

    private static void readingIsRefused() {
        checks.part("9 read refused");
        GaugeBook book = plainBook();
        book.read(0, 400, 7, 0);
        book.erase(100, 100);
        refuseSpan(book, "read", (day, days) -> book.read(day, days, 0, 0));
        int[][] stagesAndRises = {
            {-501, 0}, {2001, 0}, {-501, 1}, {2001, -1}, {2000, 1}, {-500, -1}, {0, 2001}, {0, -501},
            {0, Integer.MAX_VALUE}, {0, Integer.MIN_VALUE}, {Integer.MAX_VALUE, 0},
            {Integer.MIN_VALUE, 0}, {Integer.MAX_VALUE, Integer.MIN_VALUE}, {-500, 2501}, {2000, -2501}};
        for (int[] pair : stagesAndRises) {
            checks.refused("read(0, 2, " + pair[0] + ", " + pair[1] + ")", book, Checks.ARGUMENT,
                    () -> book.read(0, 2, pair[0], pair[1]));
        }
        checks.refused("read(0, 400, 6, 5)", book, Checks.ARGUMENT, () -> book.read(0, 400, 6, 5));
        // 5 * 2^30 wraps around to 2^30 in 32 bits, and 5 * 858993459 to -1.
        checks.refused("read(0, 5, 0, 1 << 30)", book, Checks.ARGUMENT, () -> book.read(0, 5, 0, 1 << 30));
        checks.refused("read(0, 6, 0, 858993459)", book, Checks.ARGUMENT,
                () -> book.read(0, 6, 0, 858993459));
        checks.refused("read(3, 1, 2001, 0)", book, Checks.ARGUMENT, () -> book.read(3, 1, 2001, 0));
        checks.refused("read(3, 1, -501, 0)", book, Checks.ARGUMENT, () -> book.read(3, 1, -501, 0));
    }

    private interface Span {
        void over(int day, int days);
    }

    private static void refuseSpan(GaugeBook book, String call, Span span) {
        int[][] spans = {
            {-1, 1}, {-1, 2}, {400, 1}, {0, 0}, {0, -1}, {0, 401}, {399, 2}, {1, 400}, {200, 201},
            {Integer.MIN_VALUE, 1}, {Integer.MAX_VALUE, 1}, {0, Integer.MIN_VALUE},
            {0, Integer.MAX_VALUE}, {399, Integer.MAX_VALUE}, {Integer.MIN_VALUE, Integer.MIN_VALUE}};
        for (int[] pair : spans) {
            checks.refused(call + "(" + pair[0] + ", " + pair[1] + ", ..)", book, Checks.ARGUMENT,
                    () -> span.over(pair[0], pair[1]));
        }
    }

    private static void stagesAreErased() {
        checks.part("10 erase");
        GaugeBook book = plainBook();
        checks.equal("erase(0, 400)", 0, book.erase(0, 400));
        book.read(10, 10, 50, 0);
        checks.equal("erase(5, 6)", 1, book.erase(5, 6));
        checks.equal("erase(5, 6)", 0, book.erase(5, 6));
        checks.equal("count(2)", 9, book.count(2));
        checks.equal("flow(10)", -1, book.flow(10));
        checks.equal("flow(11)", 50, book.flow(11));
        checks.equal("erase(19, 1)", 1, book.erase(19, 1));
        checks.equal("flow(18)", 50, book.flow(18));
        checks.equal("flow(19)", -1, book.flow(19));
        checks.equal("erase(0, 400)", 8, book.erase(0, 400));
        checks.equal("count(2)", 0, book.count(2));
        book.read(399, 1, 3, 0);
        checks.equal("erase(399, 1)", 1, book.erase(399, 1));
    }

    private static void erasingIsRefused() {
        checks.part("10 erase refused");
        GaugeBook book = plainBook();
        book.read(0, 400, 7, 0);
        refuseSpan(book, "erase", (day, days) -> book.erase(day, days));
    }

    private static void daysFreeze() {
        checks.part("11 freeze");
        GaugeBook book = plainBook();
        checks.equal("freeze(0, 400, false)", 0, book.freeze(0, 400, false));
        checks.equal("freeze(10, 10, true)", 10, book.freeze(10, 10, true));
        checks.equal("freeze(15, 10, true)", 5, book.freeze(15, 10, true));
        checks.equal("count(3)", 15, book.count(3));
        checks.equal("freeze(0, 11, false)", 1, book.freeze(0, 11, false));
        checks.equal("freeze(24, 2, false)", 1, book.freeze(24, 2, false));
        checks.equal("count(3)", 13, book.count(3));
        checks.equal("freeze(399, 1, true)", 1, book.freeze(399, 1, true));
        checks.equal("freeze(0, 400, true)", 386, book.freeze(0, 400, true));
        checks.equal("freeze(0, 400, false)", 400, book.freeze(0, 400, false));
        checks.equal("count(3)", 0, book.count(3));
        checks.equal("count(2)", 0, book.count(2));
    }

    private static void freezingIsRefused() {
        checks.part("11 freeze refused");
        GaugeBook book = plainBook();
        book.read(0, 400, 7, 0);
        book.freeze(0, 200, true);
        refuseSpan(book, "freeze", (day, days) -> book.freeze(day, days, true));
        refuseSpan(book, "freeze", (day, days) -> book.freeze(day, days, false));
    }

    private static void rulesAreSet() {
        checks.part("12 setRules");
        GaugeBook book = plainBook();
        book.read(0, 1, 1000, 0);
        book.read(61, 1, 1610, 0);
        book.freeze(0, 1, true);
        checks.equal("flow(0)", 600, book.flow(0));
        checks.equal("setRules(0, 0)", 60, book.setRules(0, 0));
        checks.equal("flow(0)", 0, book.flow(0));
        checks.equal("setRules(100, 60)", 0, book.setRules(100, 60));
        checks.equal("flow(0)", 1000, book.flow(0));
        checks.equal("flow(60)", 1600, book.flow(60));
        checks.equal("setRules(37, 59)", 100, book.setRules(37, 59));
        checks.equal("flow(0)", 370, book.flow(0));
        checks.equal("flow(60)", -1, book.flow(60));
        checks.equal("setRules(37, 59)", 37, book.setRules(37, 59));
    }

    private static void rulesAreRefused() {
        checks.part("12 setRules refused");
        GaugeBook book = plainBook();
        int[][] rules = {
            {-1, 0}, {101, 0}, {0, -1}, {0, 61}, {Integer.MIN_VALUE, 0}, {Integer.MAX_VALUE, 0},
            {0, Integer.MIN_VALUE}, {0, Integer.MAX_VALUE}, {50, 61}, {101, 3}};
        for (int[] pair : rules) {
            checks.refused("setRules(" + pair[0] + ", " + pair[1] + ")", book, Checks.ARGUMENT,
                    () -> book.setRules(pair[0], pair[1]));
        }
        checks.equal("setRules(1, 1)", 60, book.setRules(1, 1));
    }

    private static void statesOfDays() {
        checks.part("13 state");
        GaugeBook book = plainBook();
        book.read(1, 3, 10, 0);
        book.read(6, 2, 20, 0);
        book.freeze(2, 4, true);
        int[] due = {0, 1, 2, 2, 3, 3, 1, 1, 0};
        for (int day = 0; day < due.length; day++) {
            checks.equal("state(" + day + ")", due[day], book.state(day));
        }
        checks.equal("state(399)", 0, book.state(399));
        book.read(399, 1, 0, 0);
        checks.equal("state(399)", 1, book.state(399));
        book.freeze(399, 1, true);
        checks.equal("state(399)", 2, book.state(399));
        book.freeze(0, 400, true);
        checks.equal("state(0)", 0, book.state(0));
        checks.equal("state(4)", 3, book.state(4));
        checks.equal("flow(4)", 8, book.flow(4));
    }

    private static void stateAndFlowAreRefused() {
        checks.part("13 state and 14 flow refused");
        GaugeBook book = plainBook();
        book.read(0, 400, 9, 0);
        for (int day : new int[] {-1, 400, Integer.MIN_VALUE, Integer.MAX_VALUE}) {
            checks.refused("state(" + day + ")", book, Checks.ARGUMENT, () -> book.state(day));
            checks.refused("flow(" + day + ")", book, Checks.ARGUMENT, () -> book.flow(day));
        }
    }

    private static void flowNeedsCompleteCurve() {
        checks.part("14 flow without a complete curve");
        GaugeBook book = new GaugeBook();
        book.read(0, 400, 5, 0);
        checks.equal("flow(399)", -1, book.flow(399));
        book.addCurve(50);
        checks.equal("flow(50)", -1, book.flow(50));
        book.addPoint(0, 0, 10);
        checks.equal("flow(50)", -1, book.flow(50));
        checks.equal("state(50)", 0, book.state(50));
        book.addPoint(0, 10, 20);
        checks.equal("flow(50)", 15, book.flow(50));
        checks.equal("flow(49)", -1, book.flow(49));
        checks.equal("state(49)", 0, book.state(49));
        book.addCurve(100);
        checks.equal("flow(99)", 15, book.flow(99));
        checks.equal("flow(100)", -1, book.flow(100));
        checks.equal("flow(399)", -1, book.flow(399));
        book.addCurve(104);
        book.addPoint(2, 0, 0);
        book.addPoint(2, 5, 5);
        checks.equal("flow(104)", 5, book.flow(104));
        checks.equal("state(101)", 3, book.state(101));
        checks.equal("flow(101)", 11, book.flow(101));
    }

    private static void flowUsesShiftAndCurveOfDay() {
        checks.part("14 flow, with shift and curve");
        GaugeBook book = plainBook();
        book.addCurve(10);
        book.addPoint(1, 0, 100);
        book.addPoint(1, 10, 200);
        book.read(8, 5, 50, 10);
        book.setShift(9, 20);
        book.setShift(11, -30);
        checks.equal("flow(8)", 30, book.flow(8));
        checks.equal("flow(9)", 40, book.flow(9));
        checks.equal("flow(10)", 850, book.flow(10));
        checks.equal("flow(11)", 1200, book.flow(11));
        checks.equal("flow(12)", 1300, book.flow(12));
        book.read(0, 1, -500, 0);
        book.setShift(9, 200);
        checks.equal("flow(0)", 0, book.flow(0));
        book.read(0, 1, 2000, 0);
        book.setShift(0, -200);
        checks.equal("flow(0)", 2200, book.flow(0));
    }

    private static void flowUnderIce() {
        checks.part("14 flow under ice");
        GaugeBook book = plainBook();
        book.read(0, 3, 33, 1);
        book.freeze(0, 3, true);
        checks.equal("flow(0)", 19, book.flow(0));
        checks.equal("flow(1)", 20, book.flow(1));
        checks.equal("flow(2)", 21, book.flow(2));
        book.setRules(1, 5);
        checks.equal("flow(0)", 0, book.flow(0));
        checks.equal("state(0)", 2, book.state(0));
        book.setRules(99, 5);
        checks.equal("flow(0)", 32, book.flow(0));
    }

    private static void gapsAreFilled() {
        checks.part("14 flow in gaps");
        GaugeBook book = plainBook();
        book.read(0, 1, 10, 0);
        book.read(4, 1, 31, 0);
        book.read(5, 1, 100, 0);
        book.read(7, 1, 0, 0);
        checks.equal("flow(0)", 10, book.flow(0));
        checks.equal("flow(1)", 15, book.flow(1));
        checks.equal("flow(2)", 20, book.flow(2));
        checks.equal("flow(3)", 25, book.flow(3));
        checks.equal("flow(4)", 31, book.flow(4));
        checks.equal("flow(5)", 100, book.flow(5));
        checks.equal("flow(6)", 50, book.flow(6));
        checks.equal("flow(7)", 0, book.flow(7));
        checks.equal("flow(8)", -1, book.flow(8));
    }

    private static void gapsAreMeasuredAgainstLimit() {
        checks.part("14 flow in gaps at the limit");
        GaugeBook book = plainBook();
        book.read(0, 1, 10, 0);
        book.read(6, 1, 70, 0);
        checks.equal("flow(5)", 60, book.flow(5));
        book.setRules(60, 4);
        checks.equal("flow(5)", -1, book.flow(5));
        checks.equal("flow(1)", -1, book.flow(1));
        book.setRules(60, 5);
        checks.equal("flow(1)", 20, book.flow(1));
        book.erase(6, 1);
        book.read(7, 1, 80, 0);
        checks.equal("flow(1)", -1, book.flow(1));
        book.setRules(60, 6);
        checks.equal("flow(1)", 20, book.flow(1));
        book.read(2, 1, 30, 0);
        book.setRules(60, 1);
        checks.equal("flow(1)", 20, book.flow(1));
        checks.equal("flow(3)", -1, book.flow(3));
        book.setRules(60, 0);
        checks.equal("flow(1)", -1, book.flow(1));
    }

    private static void gapsNeedBothEnds() {
        checks.part("14 flow in gaps without an end");
        GaugeBook book = plainBook();
        book.setRules(60, 60);
        book.read(2, 1, 10, 0);
        book.read(397, 1, 10, 0);
        checks.equal("flow(0)", -1, book.flow(0));
        checks.equal("flow(1)", -1, book.flow(1));
        checks.equal("flow(3)", -1, book.flow(3));
        checks.equal("flow(396)", -1, book.flow(396));
        checks.equal("flow(398)", -1, book.flow(398));
        checks.equal("flow(399)", -1, book.flow(399));
        book.read(0, 1, 10, 0);
        book.read(399, 1, 20, 0);
        checks.equal("flow(1)", 10, book.flow(1));
        checks.equal("flow(398)", 15, book.flow(398));
        checks.equal("state(398)", 3, book.state(398));
    }

    private static void gapsAreCutTowardsZero() {
        checks.part("14 flow in gaps, cut");
        GaugeBook book = plainBook();
        book.read(0, 1, 10, 0);
        book.read(3, 1, 0, 0);
        checks.equal("flow(1)", 7, book.flow(1));
        checks.equal("flow(2)", 4, book.flow(2));
        book.read(0, 1, 0, 0);
        book.read(3, 1, 10, 0);
        checks.equal("flow(1)", 3, book.flow(1));
        checks.equal("flow(2)", 6, book.flow(2));
    }

    private static void flowsFollowEachChange() {
        checks.part("14 flow after each change");
        GaugeBook book = new GaugeBook();
        checks.equal("flow(3)", -1, book.flow(3));
        book.read(3, 1, 100, 0);
        checks.equal("flow(3)", -1, book.flow(3));
        book.addCurve(0);
        book.addPoint(0, 0, 0);
        checks.equal("flow(3)", -1, book.flow(3));
        book.addPoint(0, 100, 1000);
        checks.equal("flow(3)", 1000, book.flow(3));
        book.addPoint(0, 50, 100);
        book.read(3, 1, 40, 0);
        checks.equal("flow(3)", 80, book.flow(3));
        book.setShift(9, 10);
        checks.equal("flow(3)", 60, book.flow(3));
        book.setShift(9, 20);
        checks.equal("flow(3)", 40, book.flow(3));
        book.freeze(3, 1, true);
        checks.equal("flow(3)", 24, book.flow(3));
        book.setRules(50, 5);
        checks.equal("flow(3)", 20, book.flow(3));
        book.freeze(3, 1, false);
        checks.equal("flow(3)", 40, book.flow(3));
        book.addCurve(2);
        checks.equal("flow(3)", -1, book.flow(3));
        book.addPoint(1, 0, 0);
        book.addPoint(1, 1, 1);
        checks.equal("flow(3)", 20, book.flow(3));
        book.erase(3, 1);
        checks.equal("flow(3)", -1, book.flow(3));
    }

    private static void flowsAreWide() {
        checks.part("14 flow in 64 bits");
        GaugeBook book = new GaugeBook();
        book.addCurve(0);
        book.addPoint(0, -500, 0);
        book.addPoint(0, -499, 1000000);
        book.setShift(0, -200);
        book.read(0, 400, 2000, 0);
        checks.equal("flow(0)", 2700000000L, book.flow(0));
        book.erase(1, 3);
        book.read(4, 1, -500, 0);
        checks.equal("flow(1)", 2075000000L, book.flow(1));
        checks.equal("flow(3)", 825000000L, book.flow(3));
        book.freeze(0, 1, true);
        checks.equal("flow(0)", 1620000000L, book.flow(0));
        book.freeze(0, 1, false);
        book.erase(100, 60);
        book.setRules(60, 60);
        book.read(160, 1, -500, 0);
        checks.equal("flow(159)", 2700000000L - 2500000000L * 60 / 61, book.flow(159));
        checks.equal("sum(161, 399, 1)", 239 * 2700000000L, book.sum(161, 399, 1));
    }
}
