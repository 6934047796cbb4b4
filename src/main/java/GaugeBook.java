/**
 * The book of a river gauge: stages are read day by day, rating curves and shifts turn them into
 * flows, and the book tells what the flows of some days come to.
 */
public final class GaugeBook {
    private static final int DAYS = 400;
    private static final int MIN_STAGE = -500;
    private static final int MAX_STAGE = 2000;
    private static final int MAX_FLOW = 1000000;
    private static final int MAX_CURVES = 6;
    private static final int MAX_MEASUREMENTS = 40;
    private static final int COUNTS = 5;
    private static final int NO_STAGE = -9999;
    private static final int NONE = -1;

    private final Curve[] curves;
    private final Shifts shifts;
    private final int[] stages;
    private final boolean[] hasStage;
    private final boolean[] ice;
    private final Measurement[] measurements;
    private final FlowTable table;
    private final Ranking ranking;
    private int curveTotal;
    private int measurementTotal;
    private int iceFactor;
    private int gapLimit;
    private boolean isReckoned;

    public GaugeBook() {
        curves = new Curve[MAX_CURVES];
        shifts = new Shifts();
        stages = new int[DAYS];
        hasStage = new boolean[DAYS];
        ice = new boolean[DAYS];
        measurements = new Measurement[MAX_MEASUREMENTS];
        table = new FlowTable();
        ranking = new Ranking();
        iceFactor = 60;
        gapLimit = 5;
    }

    // ---- curves and shifts

    public int addCurve(int day) throws IllegalArgumentException, IllegalStateException {
        requireDay(day);
        if (curveTotal >= MAX_CURVES) {
            throw new IllegalStateException("there are 6 curves");
        }
        if (hasCurveFrom(day)) {
            throw new IllegalStateException("a curve holds from this day on");
        }
        int number = curveTotal;
        curves[number] = new Curve(day);
        curveTotal = number + 1;
        isReckoned = false;
        return number;
    }

    public int addPoint(int curve, int stage, int flow)
            throws IndexOutOfBoundsException, IllegalArgumentException, IllegalStateException {
        Curve chosen = curveAt(curve);
        if (chosen == null) {
            throw new IndexOutOfBoundsException("no such curve");
        }
        requireStage(stage);
        requireFlow(flow);
        if (!chosen.insert(stage, flow)) {
            throw new IllegalStateException("the curve cannot take this point");
        }
        isReckoned = false;
        return chosen.size();
    }

    public long flowBy(int curve, int stage)
            throws IndexOutOfBoundsException, IllegalArgumentException, IllegalStateException {
        Curve chosen = curveAt(curve);
        if (chosen == null) {
            throw new IndexOutOfBoundsException("no such curve");
        }
        if (stage < -2000 || stage > 4000) {
            throw new IllegalArgumentException("stage is not -2000 to 4000");
        }
        if (!chosen.isComplete()) {
            throw new IllegalStateException("the curve is not complete");
        }
        return chosen.flowAt(stage);
    }

    public int stageBy(int curve, int flow)
            throws IndexOutOfBoundsException, IllegalArgumentException, IllegalStateException {
        Curve chosen = curveAt(curve);
        if (chosen == null) {
            throw new IndexOutOfBoundsException("no such curve");
        }
        requireFlow(flow);
        if (!chosen.isComplete()) {
            throw new IllegalStateException("the curve is not complete");
        }
        return chosen.lowestStageFor(flow);
    }

    public int curveOf(int day) throws IllegalArgumentException {
        requireDay(day);
        return curveNumberOn(day);
    }

    public int setShift(int day, int shift) throws IllegalArgumentException, IllegalStateException {
        requireDay(day);
        if (shift < -200 || shift > 200) {
            throw new IllegalArgumentException("shift is not -200 to 200");
        }
        int before = shifts.on(day);
        if (!shifts.tell(day, shift)) {
            throw new IllegalStateException("there are 20 shifts, and none for this day");
        }
        isReckoned = false;
        return before;
    }

    public int shift(int day) throws IllegalArgumentException {
        requireDay(day);
        return shifts.on(day);
    }

    // ---- days

    public int read(int day, int days, int stage, int rise) throws IllegalArgumentException {
        requireSpan(day, days);
        requireStage(stage);
        // The stages rise or fall alike, so all are in range if the first and the last one are.
        requireStage(stage + (long) rise * (days - 1));
        int before = countTrue(hasStage, day, days);
        for (int i = 0; i < days; i++) {
            stages[day + i] = stage + rise * i;
            hasStage[day + i] = true;
        }
        isReckoned = false;
        return before;
    }

    public int erase(int day, int days) throws IllegalArgumentException {
        requireSpan(day, days);
        int before = countTrue(hasStage, day, days);
        for (int i = 0; i < days; i++) {
            hasStage[day + i] = false;
        }
        isReckoned = false;
        return before;
    }

    public int freeze(int day, int days, boolean isIce) throws IllegalArgumentException {
        requireSpan(day, days);
        int icy = countTrue(ice, day, days);
        for (int i = 0; i < days; i++) {
            ice[day + i] = isIce;
        }
        isReckoned = false;
        return isIce ? days - icy : icy;
    }

    public int setRules(int factor, int limit) throws IllegalArgumentException {
        if (factor < 0 || factor > 100) {
            throw new IllegalArgumentException("factor is not 0 to 100");
        }
        if (limit < 0 || limit > 60) {
            throw new IllegalArgumentException("limit is not 0 to 60");
        }
        int before = iceFactor;
        iceFactor = factor;
        gapLimit = limit;
        isReckoned = false;
        return before;
    }

    public int state(int day) throws IllegalArgumentException {
        requireDay(day);
        reckon();
        return table.stateOn(day);
    }

    public long flow(int day) throws IllegalArgumentException {
        requireDay(day);
        reckon();
        return table.flowOn(day);
    }

    // ---- what is told of some days

    public long sum(int from, int to, int what)
            throws IndexOutOfBoundsException, IllegalArgumentException {
        if (what < 0 || what > 4) {
            throw new IndexOutOfBoundsException("what is not 0 to 4");
        }
        requireRange(from, to);
        reckon();
        switch (what) {
            case 0:
                return table.daysWithFlow(from, to);
            case 1:
                return table.total(from, to);
            case 2:
                return table.flowOn(table.greatestDay(from, to));
            case 3:
                return table.leastFlow(from, to);
            default:
                return table.greatestDay(from, to);
        }
    }

    public double mean(int from, int to) throws IllegalArgumentException {
        requireRange(from, to);
        reckon();
        int number = table.daysWithFlow(from, to);
        return number == 0 ? 0.0 : (double) table.total(from, to) / (double) number;
    }

    public long reached(int percent) throws IllegalArgumentException {
        if (percent < 1 || percent > 100) {
            throw new IllegalArgumentException("percent is not 1 to 100");
        }
        reckon();
        ranking.rank(table);
        int rank = Math.max(1, ranking.size() * percent / 100);
        return table.flowOn(ranking.dayOfRank(rank));
    }

    public int peaks(long limit, int apart) throws IllegalArgumentException {
        requireLimit(limit);
        if (apart < 1 || apart > 100) {
            throw new IllegalArgumentException("apart is not 1 to 100");
        }
        reckon();
        ranking.rank(table);
        return ranking.countPeaks(table, limit, apart);
    }

    public int spell(long limit) throws IllegalArgumentException {
        requireLimit(limit);
        reckon();
        return table.longestBelow(limit);
    }

    // ---- measurements

    public int measure(int day, int stage, int flow)
            throws IllegalArgumentException, IllegalStateException {
        requireDay(day);
        requireStage(stage);
        requireFlow(flow);
        if (measurementTotal >= MAX_MEASUREMENTS) {
            throw new IllegalStateException("there are 40 measurements");
        }
        measurements[measurementTotal] = new Measurement(day, stage, flow);
        measurementTotal++;
        return measurementTotal;
    }

    public long deviation(int measurement) throws IndexOutOfBoundsException, IllegalStateException {
        Measurement chosen = measurementAt(measurement);
        if (chosen == null) {
            throw new IndexOutOfBoundsException("no such measurement");
        }
        Curve curve = completeCurveOn(chosen.day);
        if (curve == null) {
            throw new IllegalStateException("its day has no complete curve");
        }
        return chosen.flow - curve.flowAt(chosen.stage - shifts.on(chosen.day));
    }

    public int wouldShift(int measurement) throws IndexOutOfBoundsException, IllegalStateException {
        Measurement chosen = measurementAt(measurement);
        if (chosen == null) {
            throw new IndexOutOfBoundsException("no such measurement");
        }
        Curve curve = completeCurveOn(chosen.day);
        if (curve == null) {
            throw new IllegalStateException("its day has no complete curve");
        }
        int stage = curve.lowestStageFor(chosen.flow);
        if (stage == NO_STAGE) {
            throw new IllegalStateException("the flow is greater than that of the highest point");
        }
        return chosen.stage - stage;
    }

    public int count(int what) throws IndexOutOfBoundsException {
        switch (what) {
            case 0:
                return curveTotal;
            case 1:
                return shifts.size();
            case 2:
                return countTrue(hasStage, 0, DAYS);
            case 3:
                return countTrue(ice, 0, DAYS);
            case 4:
                return measurementTotal;
            default:
                throw new IndexOutOfBoundsException("what is not 0 to 4");
        }
    }

    public long digest() {
        reckon();
        long d = 317;
        for (int what = 0; what < COUNTS; what++) {
            d = d * 31 + count(what);
        }
        d = d * 31 + iceFactor;
        d = d * 31 + gapLimit;
        for (int day = 0; day < DAYS; day++) {
            d = d * 31 + shifts.on(day);
            d = d * 31 + table.stateOn(day);
            d = d * 31 + table.flowOn(day);
        }
        return d;
    }

    // ---- what the calls have in common

    private static void requireDay(int day) {
        if (day < 0 || day >= DAYS) {
            throw new IllegalArgumentException("day is not 0 to 399");
        }
    }

    private static void requireSpan(int day, int days) {
        requireDay(day);
        if (days < 1 || days > DAYS) {
            throw new IllegalArgumentException("days is not 1 to 400");
        }
        if (day + days > DAYS) {
            throw new IllegalArgumentException("the last day is greater than 399");
        }
    }

    private static void requireRange(int from, int to) {
        if (from < 0 || from > to || to >= DAYS) {
            throw new IllegalArgumentException("from and to are not days in their order");
        }
    }

    private static void requireStage(long stage) {
        if (stage < MIN_STAGE || stage > MAX_STAGE) {
            throw new IllegalArgumentException("stage is not -500 to 2000");
        }
    }

    private static void requireFlow(int flow) {
        if (flow < 0 || flow > MAX_FLOW) {
            throw new IllegalArgumentException("flow is not 0 to 1000000");
        }
    }

    private static void requireLimit(long limit) {
        if (limit < 0) {
            throw new IllegalArgumentException("limit is less than 0");
        }
    }

    private static int countTrue(boolean[] row, int first, int length) {
        int number = 0;
        for (int i = first; i < first + length && i < row.length; i++) {
            if (row[i]) {
                number++;
            }
        }
        return number;
    }

    /** How many of the numbers in use, which stand in rising order, are less than a value. */
    private static int countLower(int[] rising, int used, int value) {
        int number = 0;
        while (number < used && number < rising.length && rising[number] < value) {
            number++;
        }
        return number;
    }

    private static void insertInto(int[] row, int used, int place, int value) {
        if (place < 0 || place > used || used >= row.length) {
            return;
        }
        for (int i = used; i > place; i--) {
            row[i] = row[i - 1];
        }
        row[place] = value;
    }

    /** The value at a part of the way from one value to another; a part over the whole goes on beyond. */
    private static long interpolate(long first, long last, long part, long whole) {
        return whole == 0 ? first : first + (last - first) * part / whole;
    }

    private Curve curveAt(int number) {
        return number < 0 || number >= curveTotal || number >= MAX_CURVES ? null : curves[number];
    }

    private boolean hasCurveFrom(int day) {
        Curve holding = curveAt(curveNumberOn(day));
        return holding != null && holding.firstDay == day;
    }

    private int curveNumberOn(int day) {
        int latest = NONE;
        int latestDay = NONE;
        for (int number = 0; number < MAX_CURVES; number++) {
            Curve curve = curveAt(number);
            if (curve != null && curve.firstDay <= day && curve.firstDay > latestDay) {
                latest = number;
                latestDay = curve.firstDay;
            }
        }
        return latest;
    }

    private Curve completeCurveOn(int day) {
        Curve curve = curveAt(curveNumberOn(day));
        return curve != null && curve.isComplete() ? curve : null;
    }

    private Measurement measurementAt(int number) {
        boolean exists = number >= 0 && number < measurementTotal && number < MAX_MEASUREMENTS;
        return exists ? measurements[number] : null;
    }

    /** One change of a curve, shift, day or rule can change many flows, so all are reckoned anew. */
    private void reckon() {
        if (isReckoned) {
            return;
        }
        for (int day = 0; day < DAYS; day++) {
            reckonDay(day);
        }
        table.fillGaps(gapLimit);
        isReckoned = true;
    }

    private void reckonDay(int day) {
        Curve curve = hasStage[day] ? completeCurveOn(day) : null;
        if (curve == null) {
            table.put(day, NONE, FlowTable.NO_FLOW);
            return;
        }
        long open = curve.flowAt(stages[day] - shifts.on(day));
        if (ice[day]) {
            table.put(day, open * iceFactor / 100, FlowTable.UNDER_ICE);
        } else {
            table.put(day, open, FlowTable.OPEN);
        }
    }

    /** A rating curve; its points stand in rising order of both stage and flow. */
    private static final class Curve {
        private static final int MAX_POINTS = 12;

        private final int firstDay;
        private final int[] pointStages;
        private final int[] pointFlows;
        private int points;

        Curve(int firstDay) {
            this.firstDay = firstDay;
            pointStages = new int[MAX_POINTS];
            pointFlows = new int[MAX_POINTS];
        }

        int size() {
            return points;
        }

        boolean isComplete() {
            return points >= 2;
        }

        /** Answers false, and changes nothing, where the curve cannot take the point. */
        boolean insert(int stage, int flow) {
            int place = countLower(pointStages, points, stage);
            if (points >= MAX_POINTS || !fits(place, stage, flow)) {
                return false;
            }
            insertInto(pointStages, points, place, stage);
            insertInto(pointFlows, points, place, flow);
            points++;
            return true;
        }

        long flowAt(int stage) {
            if (points < 2 || stage < pointStages[0]) {
                return 0;
            }
            int upper = countLower(pointStages, points, stage);
            upper = Math.min(Math.max(upper, 1), points - 1);
            int lower = upper - 1;
            return interpolate(pointFlows[lower], pointFlows[upper],
                    stage - pointStages[lower], pointStages[upper] - pointStages[lower]);
        }

        int lowestStageFor(int flow) {
            int upper = countLower(pointFlows, points, flow);
            if (upper >= points) {
                return NO_STAGE;
            }
            if (upper == 0) {
                return pointStages[0];
            }
            int lower = upper - 1;
            long wanted = flow - pointFlows[lower];
            long width = pointStages[upper] - pointStages[lower];
            return pointStages[lower] + divideUp(wanted * width, pointFlows[upper] - pointFlows[lower]);
        }

        private boolean fits(int place, int stage, int flow) {
            boolean isAboveLower = place == 0 || pointFlows[place - 1] < flow;
            boolean isBelowUpper = place >= points
                    || pointStages[place] > stage && pointFlows[place] > flow;
            return isAboveLower && isBelowUpper;
        }

        // The curve's flow is cut towards 0, so the first stage that reaches a flow is rounded up.
        private static int divideUp(long dividend, long divisor) {
            return divisor <= 0 ? 0 : (int) ((dividend + divisor - 1) / divisor);
        }
    }

    /** The shifts that were told, in the order of their days. */
    private static final class Shifts {
        private static final int MAX_SHIFTS = 20;

        private final int[] toldDays;
        private final int[] toldShifts;
        private int told;

        Shifts() {
            toldDays = new int[MAX_SHIFTS];
            toldShifts = new int[MAX_SHIFTS];
        }

        int size() {
            return told;
        }

        int on(int day) {
            if (told == 0) {
                return 0;
            }
            int later = countLower(toldDays, told, day);
            if (later >= told) {
                return toldShifts[told - 1];
            }
            if (later == 0) {
                return toldShifts[0];
            }
            int earlier = later - 1;
            return (int) interpolate(toldShifts[earlier], toldShifts[later],
                    day - toldDays[earlier], toldDays[later] - toldDays[earlier]);
        }

        /** Answers false, and changes nothing, where there is no room for the day. */
        boolean tell(int day, int shift) {
            int place = countLower(toldDays, told, day);
            if (place < told && toldDays[place] == day) {
                toldShifts[place] = shift;
                return true;
            }
            if (told >= MAX_SHIFTS) {
                return false;
            }
            insertInto(toldDays, told, place, day);
            insertInto(toldShifts, told, place, shift);
            told++;
            return true;
        }
    }

    /** The flow and the state of each day. */
    private static final class FlowTable {
        private static final int NO_FLOW = 0;
        private static final int OPEN = 1;
        private static final int UNDER_ICE = 2;
        private static final int FILLED = 3;

        private final long[] flows;
        private final int[] states;

        FlowTable() {
            flows = new long[DAYS];
            states = new int[DAYS];
        }

        void put(int day, long flow, int newState) {
            if (day >= 0 && day < DAYS) {
                flows[day] = flow;
                states[day] = newState;
            }
        }

        int stateOn(int day) {
            return day < 0 || day >= DAYS ? NO_FLOW : states[day];
        }

        long flowOn(int day) {
            return day < 0 || day >= DAYS ? NONE : flows[day];
        }

        boolean hasFlow(int day) {
            return stateOn(day) != NO_FLOW;
        }

        void fillGaps(int longest) {
            int ahead = NONE;
            for (int day = 0; day < DAYS; day++) {
                if (hasFlow(day)) {
                    if (ahead != NONE && day - ahead - 1 <= longest) {
                        fillBetween(ahead, day);
                    }
                    ahead = day;
                }
            }
        }

        private void fillBetween(int ahead, int behind) {
            long first = flowOn(ahead);
            long last = flowOn(behind);
            for (int day = ahead + 1; day < behind; day++) {
                put(day, interpolate(first, last, day - ahead, behind - ahead), FILLED);
            }
        }

        int daysWithFlow(int from, int to) {
            int number = 0;
            for (int day = from; day <= to; day++) {
                if (hasFlow(day)) {
                    number++;
                }
            }
            return number;
        }

        long total(int from, int to) {
            long total = 0;
            for (int day = from; day <= to; day++) {
                if (hasFlow(day)) {
                    total += flowOn(day);
                }
            }
            return total;
        }

        int greatestDay(int from, int to) {
            int greatest = NONE;
            for (int day = from; day <= to; day++) {
                if (hasFlow(day) && flowOn(day) > flowOn(greatest)) {
                    greatest = day;
                }
            }
            return greatest;
        }

        long leastFlow(int from, int to) {
            long least = NONE;
            for (int day = from; day <= to; day++) {
                if (hasFlow(day) && (least == NONE || flowOn(day) < least)) {
                    least = flowOn(day);
                }
            }
            return least;
        }

        int longestBelow(long limit) {
            int longest = 0;
            int length = 0;
            for (int day = 0; day < DAYS; day++) {
                length = hasFlow(day) && flowOn(day) < limit ? length + 1 : 0;
                longest = Math.max(longest, length);
            }
            return longest;
        }
    }

    /** The days that have a flow, the greatest flow first; of equal flows the earlier day first. */
    private static final class Ranking {
        private final int[] days;
        private final int[] merged;
        private final boolean[] isNearPeak;
        private int ranked;

        Ranking() {
            days = new int[DAYS];
            merged = new int[DAYS];
            isNearPeak = new boolean[DAYS];
        }

        int size() {
            return ranked;
        }

        int dayOfRank(int rank) {
            return rank < 1 || rank > ranked ? NONE : days[rank - 1];
        }

        void rank(FlowTable table) {
            ranked = 0;
            for (int day = 0; day < DAYS; day++) {
                if (table.hasFlow(day)) {
                    days[ranked] = day;
                    ranked++;
                }
            }
            for (int width = 1; width < ranked; width *= 2) {
                mergeRuns(table, width);
            }
        }

        int countPeaks(FlowTable table, long limit, int apart) {
            clearPeaks();
            int peaks = 0;
            for (int rank = 1; rank <= ranked; rank++) {
                int day = dayOfRank(rank);
                if (table.flowOn(day) < limit) {
                    break;
                }
                if (!isNearPeak[day]) {
                    peaks++;
                    markNear(day, apart);
                }
            }
            return peaks;
        }

        private void mergeRuns(FlowTable table, int width) {
            for (int start = 0; start < ranked; start += 2 * width) {
                int middle = Math.min(start + width, ranked);
                int end = Math.min(start + 2 * width, ranked);
                merge(table, start, middle, end);
            }
            System.arraycopy(merged, 0, days, 0, ranked);
        }

        private void merge(FlowTable table, int start, int middle, int end) {
            int left = start;
            int right = middle;
            for (int place = start; place < end; place++) {
                boolean takesLeft = left < middle
                        && (right >= end || table.flowOn(days[left]) >= table.flowOn(days[right]));
                if (takesLeft) {
                    merged[place] = days[left];
                    left++;
                } else if (right < end) {
                    merged[place] = days[right];
                    right++;
                }
            }
        }

        private void clearPeaks() {
            for (int day = 0; day < DAYS; day++) {
                isNearPeak[day] = false;
            }
        }

        private void markNear(int peak, int apart) {
            int first = Math.max(0, peak - apart + 1);
            int last = Math.min(DAYS - 1, peak + apart - 1);
            for (int day = first; day <= last; day++) {
                isNearPeak[day] = true;
            }
        }
    }

    private static final class Measurement {
        private final int day;
        private final int stage;
        private final int flow;

        Measurement(int day, int stage, int flow) {
            this.day = day;
            this.stage = stage;
            this.flow = flow;
        }
    }
}
