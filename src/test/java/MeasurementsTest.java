/** Promises 20 to 24: measure, deviation, wouldShift, count, digest. */
public final class MeasurementsTest {
    private static final Checks checks = new Checks();

    public static void main(String[] args) {
        measurementsAreNoted();
        measurementsAreRefused();
        deviationsFollowCurveAndShift();
        deviationIsRefused();
        shiftsThatWouldFit();
        shiftThatWouldFitIsRefused();
        countsOfAll();
        countIsRefused();
        digestOfNewBook();
        digestOfAll();
        digestFollowsEachChange();
        checks.finish();
    }

    private static GaugeBook bookWithCurve(int... stagesAndFlows) {
        GaugeBook book = new GaugeBook();
        book.addCurve(10);
        for (int i = 0; i < stagesAndFlows.length; i += 2) {
            book.addPoint(0, stagesAndFlows[i], stagesAndFlows[i + 1]);
        }
        return book;
    }

    private static void measurementsAreNoted() {
        checks.part("20 measure");
        GaugeBook book = bookWithCurve(0, 0, 100, 1000);
        checks.equal("measure(0, -500, 0)", 1, book.measure(0, -500, 0));
        checks.equal("measure(399, 2000, 1000000)", 2, book.measure(399, 2000, 1000000));
        for (int i = 2; i < 40; i++) {
            checks.equal("measure(20, 50, " + i + ")", i + 1, book.measure(20, 50, i));
        }
        checks.equal("count(4)", 40, book.count(4));
        refuseMeasurement(book, 20, 50, 5, Checks.STATE);
        refuseMeasurement(book, 400, 50, 5, Checks.ARGUMENT);
        for (int i = 2; i < 40; i++) {
            checks.equal("deviation(" + i + ")", i - 500, book.deviation(i));
        }
        checks.equal("deviation(1)", 980000, book.deviation(1));
        checks.equal("count(2)", 0, book.count(2));
    }

    private static void measurementsAreRefused() {
        checks.part("20 measure refused");
        GaugeBook book = bookWithCurve(0, 0, 100, 1000);
        book.measure(20, 50, 5);
        int[][] wrong = {
            {-1, 0, 0}, {400, 0, 0}, {0, -501, 0}, {0, 2001, 0}, {0, 0, -1}, {0, 0, 1000001},
            {Integer.MIN_VALUE, 0, 0}, {Integer.MAX_VALUE, 0, 0}, {0, Integer.MIN_VALUE, 0},
            {0, Integer.MAX_VALUE, 0}, {0, 0, Integer.MIN_VALUE}, {0, 0, Integer.MAX_VALUE}};
        for (int[] row : wrong) {
            refuseMeasurement(book, row[0], row[1], row[2], Checks.ARGUMENT);
        }
        checks.equal("measure(20, 50, 5)", 2, book.measure(20, 50, 5));
    }

    private static void refuseMeasurement(GaugeBook book, int day, int stage, int flow,
            Class<? extends RuntimeException> due) {
        checks.refused("measure(" + day + ", " + stage + ", " + flow + ")", book, due,
                () -> book.measure(day, stage, flow));
    }

    private static void deviationsFollowCurveAndShift() {
        checks.part("21 deviation");
        GaugeBook book = bookWithCurve(0, 0, 100, 1000);
        book.measure(20, 50, 700);
        book.measure(20, -1, 3);
        book.measure(10, 200, 0);
        checks.equal("deviation(0)", 200, book.deviation(0));
        checks.equal("deviation(1)", 3, book.deviation(1));
        checks.equal("deviation(2)", -2000, book.deviation(2));
        book.setShift(10, -10);
        book.setShift(30, 50);
        checks.equal("deviation(0)", 400, book.deviation(0));
        checks.equal("deviation(2)", -2100, book.deviation(2));
        book.freeze(0, 400, true);
        book.read(0, 400, 7, 0);
        checks.equal("deviation(0)", 400, book.deviation(0));
        book.addCurve(15);
        book.addPoint(1, 0, 1);
        book.addPoint(1, 1, 2);
        checks.equal("deviation(0)", 669, book.deviation(0));
        checks.equal("deviation(2)", -2100, book.deviation(2));
        GaugeBook steep = bookWithCurve(-500, 0, -499, 1000000);
        steep.setShift(0, -200);
        steep.measure(10, 2000, 1);
        checks.equal("deviation(0)", 1 - 2700000000L, steep.deviation(0));
    }

    private static void deviationIsRefused() {
        checks.part("21 deviation refused");
        GaugeBook book = new GaugeBook();
        checks.refused("deviation(0)", book, Checks.INDEX, () -> book.deviation(0));
        book.measure(20, 50, 5);
        refuseIndexes(book, "deviation", book::deviation);
        checks.refused("deviation(0)", book, Checks.STATE, () -> book.deviation(0));
        book.addCurve(21);
        book.addPoint(0, 0, 0);
        book.addPoint(0, 1, 1);
        checks.refused("deviation(0)", book, Checks.STATE, () -> book.deviation(0));
        book.addCurve(20);
        checks.refused("deviation(0)", book, Checks.STATE, () -> book.deviation(0));
        book.addPoint(1, 0, 0);
        checks.refused("deviation(0)", book, Checks.STATE, () -> book.deviation(0));
        book.addPoint(1, 1, 2);
        checks.equal("deviation(0)", -95, book.deviation(0));
    }

    private interface Asked {
        void of(int measurement);
    }

    private static void refuseIndexes(GaugeBook book, String call, Asked asked) {
        for (int index : new int[] {-1, 1, 39, 40, Integer.MIN_VALUE, Integer.MAX_VALUE}) {
            checks.refused(call + "(" + index + ")", book, Checks.INDEX, () -> asked.of(index));
        }
    }

    private static void shiftsThatWouldFit() {
        checks.part("22 wouldShift");
        GaugeBook book = bookWithCurve(0, 10, 100, 1000);
        book.measure(20, 50, 505);
        book.measure(20, 50, 506);
        book.measure(20, -500, 1000);
        book.measure(20, 2000, 0);
        book.measure(20, 7, 10);
        checks.equal("wouldShift(0)", 0, book.wouldShift(0));
        checks.equal("wouldShift(1)", -1, book.wouldShift(1));
        checks.equal("wouldShift(2)", -600, book.wouldShift(2));
        checks.equal("wouldShift(3)", 2000, book.wouldShift(3));
        checks.equal("wouldShift(4)", 7, book.wouldShift(4));
        book.setShift(20, 100);
        checks.equal("wouldShift(0)", 0, book.wouldShift(0));
        book.addCurve(20);
        book.addPoint(1, 30, 0);
        book.addPoint(1, 40, 1000);
        checks.equal("wouldShift(0)", 14, book.wouldShift(0));
        checks.equal("wouldShift(2)", -540, book.wouldShift(2));
    }

    private static void shiftThatWouldFitIsRefused() {
        checks.part("22 wouldShift refused");
        GaugeBook book = new GaugeBook();
        checks.refused("wouldShift(0)", book, Checks.INDEX, () -> book.wouldShift(0));
        book.measure(20, 50, 5);
        refuseIndexes(book, "wouldShift", book::wouldShift);
        checks.refused("wouldShift(0)", book, Checks.STATE, () -> book.wouldShift(0));
        book.addCurve(21);
        book.addPoint(0, 0, 0);
        book.addPoint(0, 9, 9);
        checks.refused("wouldShift(0)", book, Checks.STATE, () -> book.wouldShift(0));
        book.addCurve(20);
        checks.refused("wouldShift(0)", book, Checks.STATE, () -> book.wouldShift(0));
        book.addPoint(1, 0, 0);
        checks.refused("wouldShift(0)", book, Checks.STATE, () -> book.wouldShift(0));
        book.addPoint(1, 1, 4);
        checks.refused("wouldShift(0)", book, Checks.STATE, () -> book.wouldShift(0));
        book.addPoint(1, 10, 5);
        checks.equal("wouldShift(0)", 40, book.wouldShift(0));
    }

    private static void countsOfAll() {
        checks.part("23 count");
        GaugeBook book = bookWithCurve(0, 0, 1, 1);
        book.setShift(1, 0);
        book.setShift(2, 0);
        book.setShift(2, 5);
        book.read(0, 3, 0, 0);
        book.freeze(10, 4, true);
        for (int i = 0; i < 5; i++) {
            book.measure(0, 0, 0);
        }
        for (int what = 0; what < 5; what++) {
            checks.equal("count(" + what + ")", what + 1, book.count(what));
        }
    }

    private static void countIsRefused() {
        checks.part("23 count refused");
        GaugeBook book = bookWithCurve(0, 0, 1, 1);
        for (int what : new int[] {-1, 5, Integer.MIN_VALUE, Integer.MAX_VALUE}) {
            checks.refused("count(" + what + ")", book, Checks.INDEX, () -> book.count(what));
        }
    }

    private static void digestOfNewBook() {
        checks.part("24 digest of a new book");
        long d = 317;
        for (int x : new int[] {0, 0, 0, 0, 0, 60, 5}) {
            d = d * 31 + x;
        }
        for (int day = 0; day < 400; day++) {
            d = ((d * 31) * 31) * 31 - 1;
        }
        checks.equal("digest()", d, new GaugeBook().digest());
    }

    private static void digestOfAll() {
        checks.part("24 digest");
        GaugeBook book = bookWithCurve(-500, 0, -499, 1000000);
        book.setShift(5, -77);
        book.setShift(300, 123);
        book.read(0, 350, -400, 2);
        book.erase(50, 4);
        book.freeze(40, 7, true);
        book.measure(3, 4, 5);
        book.setRules(33, 44);
        long d = 317;
        for (int x : new int[] {1, 2, 346, 7, 1, 33, 44}) {
            d = d * 31 + x;
        }
        for (int day = 0; day < 400; day++) {
            d = d * 31 + book.shift(day);
            d = d * 31 + book.state(day);
            d = d * 31 + book.flow(day);
        }
        checks.equal("digest()", d, book.digest());
        checks.equal("digest() again", d, book.digest());
    }

    private static void digestFollowsEachChange() {
        checks.part("24 digest after each change");
        GaugeBook book = new GaugeBook();
        java.util.Set<Long> seen = new java.util.HashSet<>();
        seen.add(book.digest());
        Runnable[] changes = {
            () -> book.addCurve(0), () -> book.read(0, 5, 10, 1), () -> book.setShift(9, 0),
            () -> book.setShift(9, 1), () -> book.freeze(0, 1, true), () -> book.setRules(61, 5),
            () -> book.setRules(61, 6), () -> book.measure(0, 0, 0), () -> book.erase(4, 1)};
        for (Runnable change : changes) {
            change.run();
            seen.add(book.digest());
        }
        checks.equal("digests that differ", changes.length + 1, seen.size());
    }
}
