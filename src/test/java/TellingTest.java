/** Promises 15 to 19: sum, mean, reached, peaks, spell. */
public final class TellingTest {
    private static final Checks checks = new Checks();

    public static void main(String[] args) {
        sumsOfDays();
        sumsOfNoDays();
        sumsCountFilledGaps();
        sumIsRefused();
        meansOfDays();
        meanIsRefused();
        flowsReached();
        flowReachedIsRefused();
        peaksAreApart();
        peaksTakeFirstOfEqualFlows();
        peaksReachLimit();
        peaksAreRefused();
        spellsOfDays();
        spellIsRefused();
        checks.finish();
    }

    /** A book whose days from the first one on have these flows; -1 for a day without one. */
    private static GaugeBook bookWithFlows(int... flows) {
        GaugeBook book = new GaugeBook();
        book.addCurve(0);
        book.addPoint(0, 0, 0);
        book.addPoint(0, 1, 1);
        book.setRules(60, 0);
        for (int day = 0; day < flows.length; day++) {
            if (flows[day] >= 0) {
                book.read(day, 1, flows[day], 0);
            }
        }
        return book;
    }

    private static void sumsOfDays() {
        checks.part("15 sum");
        GaugeBook book = bookWithFlows(5, -1, 9, 3, 9, -1, 0);
        long[] due = {5, 26, 9, 0, 2};
        checkSums(book, 0, 399, due);
        checkSums(book, 0, 6, due);
        checkSums(book, 0, 5, new long[] {4, 26, 9, 3, 2});
        checkSums(book, 3, 6, new long[] {3, 12, 9, 0, 4});
        checkSums(book, 0, 1, new long[] {1, 5, 5, 5, 0});
        checkSums(book, 6, 6, new long[] {1, 0, 0, 0, 6});
        book.read(399, 1, 11, 0);
        checkSums(book, 399, 399, new long[] {1, 11, 11, 11, 399});
        checkSums(book, 0, 399, new long[] {6, 37, 11, 0, 399});
        checkSums(book, 0, 398, due);
    }

    private static void sumsOfNoDays() {
        checks.part("15 sum of no flow");
        GaugeBook book = bookWithFlows(5, -1, -1, 5);
        long[] due = {0, 0, -1, -1, -1};
        checkSums(book, 1, 2, due);
        checkSums(book, 4, 399, due);
        checkSums(new GaugeBook(), 0, 399, due);
    }

    private static void sumsCountFilledGaps() {
        checks.part("15 sum with filled gaps");
        GaugeBook book = bookWithFlows(4, -1, -1, 10);
        book.setRules(60, 2);
        checkSums(book, 0, 399, new long[] {4, 28, 10, 4, 3});
        checkSums(book, 1, 2, new long[] {2, 14, 8, 6, 2});
    }

    private static void checkSums(GaugeBook book, int from, int to, long[] due) {
        for (int what = 0; what < 5; what++) {
            checks.equal("sum(" + from + ", " + to + ", " + what + ")", due[what], book.sum(from, to, what));
        }
    }

    private static void sumIsRefused() {
        checks.part("15 sum refused");
        GaugeBook book = bookWithFlows(5, 6, 7);
        for (int what : new int[] {-1, 5, Integer.MIN_VALUE, Integer.MAX_VALUE}) {
            checks.refused("sum(0, 0, " + what + ")", book, Checks.INDEX, () -> book.sum(0, 0, what));
            checks.refused("sum(-1, 400, " + what + ")", book, Checks.INDEX, () -> book.sum(-1, 400, what));
        }
        for (int[] range : BAD_RANGES) {
            for (int what = 0; what < 5; what++) {
                int asked = what;
                checks.refused("sum(" + range[0] + ", " + range[1] + ", " + what + ")", book, Checks.ARGUMENT,
                        () -> book.sum(range[0], range[1], asked));
            }
        }
    }

    private static final int[][] BAD_RANGES = {
        {-1, 0}, {1, 0}, {0, 400}, {399, 400}, {400, 400}, {399, 0}, {-1, -1}, {0, -1},
        {Integer.MIN_VALUE, 0}, {0, Integer.MAX_VALUE}, {Integer.MAX_VALUE, Integer.MAX_VALUE}};

    private static void meansOfDays() {
        checks.part("16 mean");
        GaugeBook book = bookWithFlows(5, -1, 9, 3, 8);
        checks.equalDouble("mean(0, 4)", 6.25, book.mean(0, 4));
        checks.equalDouble("mean(0, 399)", 6.25, book.mean(0, 399));
        checks.equalDouble("mean(0, 0)", 5.0, book.mean(0, 0));
        checks.equalDouble("mean(0, 3)", 17.0 / 3.0, book.mean(0, 3));
        checks.equalDouble("mean(1, 1)", 0.0, book.mean(1, 1));
        checks.equalDouble("mean(5, 399)", 0.0, book.mean(5, 399));
        checks.equalDouble("mean(0, 399) of none", 0.0, new GaugeBook().mean(0, 399));
        book.setRules(60, 1);
        checks.equalDouble("mean(0, 4)", 32.0 / 5.0, book.mean(0, 4));
        book.read(399, 1, 7, 0);
        checks.equalDouble("mean(399, 399)", 7.0, book.mean(399, 399));
    }

    private static void meanIsRefused() {
        checks.part("16 mean refused");
        GaugeBook book = bookWithFlows(5, 6, 7);
        for (int[] range : BAD_RANGES) {
            checks.refused("mean(" + range[0] + ", " + range[1] + ")", book, Checks.ARGUMENT,
                    () -> book.mean(range[0], range[1]));
        }
    }

    private static void flowsReached() {
        checks.part("17 reached");
        GaugeBook book = bookWithFlows(30, 10, -1, 20, 40, 20);
        checks.equal("reached(1)", 40, book.reached(1));
        checks.equal("reached(39)", 40, book.reached(39));
        checks.equal("reached(40)", 30, book.reached(40));
        checks.equal("reached(59)", 30, book.reached(59));
        checks.equal("reached(60)", 20, book.reached(60));
        checks.equal("reached(80)", 20, book.reached(80));
        checks.equal("reached(99)", 20, book.reached(99));
        checks.equal("reached(100)", 10, book.reached(100));
        checks.equal("reached(1) of none", -1, new GaugeBook().reached(1));
        checks.equal("reached(100) of none", -1, new GaugeBook().reached(100));
        book.setRules(60, 1);
        checks.equal("reached(84)", 15, book.reached(84));
        GaugeBook full = bookWithFlows();
        full.read(0, 400, 5, 5);
        for (int percent = 1; percent <= 100; percent++) {
            checks.equal("reached(" + percent + ")", 2005 - 20L * percent, full.reached(percent));
        }
    }

    private static void flowReachedIsRefused() {
        checks.part("17 reached refused");
        GaugeBook book = bookWithFlows(1, 2, 3);
        for (int percent : new int[] {0, -1, 101, Integer.MIN_VALUE, Integer.MAX_VALUE}) {
            checks.refused("reached(" + percent + ")", book, Checks.ARGUMENT, () -> book.reached(percent));
        }
    }

    private static void peaksAreApart() {
        checks.part("18 peaks");
        GaugeBook book = bookWithFlows(10, 20, 50, 40, 30, 60, 5);
        checks.equal("peaks(0, 1)", 7, book.peaks(0, 1));
        // 60 on day 5, 50 on day 2, 10 on day 0.
        checks.equal("peaks(0, 2)", 3, book.peaks(0, 2));
        checks.equal("peaks(0, 3)", 2, book.peaks(0, 3));
        checks.equal("peaks(0, 4)", 2, book.peaks(0, 4));
        checks.equal("peaks(0, 5)", 2, book.peaks(0, 5));
        checks.equal("peaks(0, 6)", 1, book.peaks(0, 6));
        checks.equal("peaks(0, 100)", 1, book.peaks(0, 100));
        book.read(398, 2, 1, 1);
        checks.equal("peaks(0, 100)", 2, book.peaks(0, 100));
        checks.equal("peaks(0, 1)", 9, book.peaks(0, 1));
        book.read(398, 2, 2, -1);
        checks.equal("peaks(0, 2) with the last day behind a peak", 4, book.peaks(0, 2));
        book.read(0, 2, 70, -1);
        checks.equal("peaks(60, 2) with the first day a peak", 2, book.peaks(60, 2));
        book.read(0, 2, 70, 1);
        checks.equal("peaks(60, 2) with the first day ahead of a peak", 2, book.peaks(60, 2));
        GaugeBook full = bookWithFlows();
        full.read(0, 400, 0, 1);
        checks.equal("peaks(0, 100)", 4, full.peaks(0, 100));
        checks.equal("peaks(0, 99)", 5, full.peaks(0, 99));
        checks.equal("peaks(0, 1)", 400, full.peaks(0, 1));
        checks.equal("peaks(0, 100) of none", 0, new GaugeBook().peaks(0, 100));
    }

    private static void peaksTakeFirstOfEqualFlows() {
        checks.part("18 peaks of equal flows");
        // The first of the three on days 1 to 3 keeps away 0 to 2, so that day 3 is a peak too.
        GaugeBook book = bookWithFlows(1, 9, 9, 9, 1);
        checks.equal("peaks(0, 2)", 2, book.peaks(0, 2));
        checks.equal("peaks(0, 3)", 2, book.peaks(0, 3));
        checks.equal("peaks(0, 4)", 1, book.peaks(0, 4));
        checks.equal("peaks(0, 2) with the first near a lower day", 1, bookWithFlows(8, 9, 9).peaks(0, 2));
        checks.equal("peaks(0, 2) with the last near a lower day", 2, bookWithFlows(9, 9, 8).peaks(0, 2));
        checks.equal("peaks(0, 2) behind a first peak", 2, bookWithFlows(20, -1, 8, 9, 9).peaks(0, 2));
        checks.equal("peaks(0, 2) behind a first peak", 3, bookWithFlows(20, -1, 9, 9, 8).peaks(0, 2));
        GaugeBook flat = bookWithFlows(7, 7, 7, 7, 7, 7, 7);
        checks.equal("peaks(7, 2)", 4, flat.peaks(7, 2));
        checks.equal("peaks(7, 3)", 3, flat.peaks(7, 3));
        checks.equal("peaks(7, 6)", 2, flat.peaks(7, 6));
        checks.equal("peaks(7, 7)", 1, flat.peaks(7, 7));
    }

    private static void peaksReachLimit() {
        checks.part("18 peaks at a limit");
        GaugeBook book = bookWithFlows(10, -1, 20, -1, 30, -1, 0);
        checks.equal("peaks(0, 1)", 4, book.peaks(0, 1));
        checks.equal("peaks(1, 1)", 3, book.peaks(1, 1));
        checks.equal("peaks(10, 1)", 3, book.peaks(10, 1));
        checks.equal("peaks(11, 1)", 2, book.peaks(11, 1));
        checks.equal("peaks(30, 1)", 1, book.peaks(30, 1));
        checks.equal("peaks(31, 1)", 0, book.peaks(31, 1));
        checks.equal("peaks(MAX, 1)", 0, book.peaks(Long.MAX_VALUE, 1));
        book.setRules(60, 1);
        checks.equal("peaks(15, 1)", 5, book.peaks(15, 1));
        GaugeBook wide = new GaugeBook();
        wide.addCurve(0);
        wide.addPoint(0, -500, 0);
        wide.addPoint(0, -499, 1000000);
        wide.read(0, 1, 2000, 0);
        checks.equal("peaks(2500000000, 1)", 1, wide.peaks(2500000000L, 1));
        checks.equal("peaks(2500000001, 1)", 0, wide.peaks(2500000001L, 1));
    }

    private static void peaksAreRefused() {
        checks.part("18 peaks refused");
        GaugeBook book = bookWithFlows(1, 2, 3);
        refusePeaks(book, -1, 1);
        refusePeaks(book, Long.MIN_VALUE, 1);
        refusePeaks(book, 0, 0);
        refusePeaks(book, 0, 101);
        refusePeaks(book, 0, -1);
        refusePeaks(book, 0, Integer.MIN_VALUE);
        refusePeaks(book, 0, Integer.MAX_VALUE);
    }

    private static void refusePeaks(GaugeBook book, long limit, int apart) {
        checks.refused("peaks(" + limit + ", " + apart + ")", book, Checks.ARGUMENT,
                () -> book.peaks(limit, apart));
    }

    private static void spellsOfDays() {
        checks.part("19 spell");
        GaugeBook book = bookWithFlows(1, 1, 5, 1, 1, 1, -1, 1, 1, 1, 1, 7);
        checks.equal("spell(0)", 0, book.spell(0));
        checks.equal("spell(1)", 0, book.spell(1));
        checks.equal("spell(2)", 4, book.spell(2));
        checks.equal("spell(5)", 4, book.spell(5));
        checks.equal("spell(6)", 6, book.spell(6));
        checks.equal("spell(MAX)", 6, book.spell(Long.MAX_VALUE));
        book.setRules(60, 1);
        checks.equal("spell(2)", 8, book.spell(2));
        checks.equal("spell(8)", 12, book.spell(8));
        checks.equal("spell(1) of none", 0, new GaugeBook().spell(1));
        book.read(0, 400, 3, 0);
        checks.equal("spell(4)", 400, book.spell(4));
        checks.equal("spell(3)", 0, book.spell(3));
        book.read(200, 1, 4, 0);
        checks.equal("spell(4)", 200, book.spell(4));
        book.read(200, 1, 3, 0);
        book.read(0, 1, 4, 0);
        checks.equal("spell(4)", 399, book.spell(4));
    }

    private static void spellIsRefused() {
        checks.part("19 spell refused");
        GaugeBook book = bookWithFlows(1, 2, 3);
        checks.refused("spell(-1)", book, Checks.ARGUMENT, () -> book.spell(-1));
        checks.refused("spell(MIN)", book, Checks.ARGUMENT, () -> book.spell(Long.MIN_VALUE));
    }
}
