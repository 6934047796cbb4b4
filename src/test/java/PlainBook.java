import java.util.ArrayList;
import java.util.Collections;
import java.util.List;
import java.util.Map;
import java.util.TreeMap;

/**
 * The document's words once more, as slow and plain as can be: nothing is kept but what was told,
 * and each answer is looked for anew. RandomRunsTest holds GaugeBook against it.
 */
final class PlainBook {
    private static final class Curve {
        final int day;
        final TreeMap<Integer, Integer> points = new TreeMap<>();

        Curve(int day) {
            this.day = day;
        }
    }

    private final List<Curve> curves = new ArrayList<>();
    private final TreeMap<Integer, Integer> shifts = new TreeMap<>();
    private final TreeMap<Integer, Integer> stages = new TreeMap<>();
    private final boolean[] ice = new boolean[400];
    private final List<int[]> measurements = new ArrayList<>();
    private int factor = 60;
    private int limit = 5;

    private static void argument(boolean holds) {
        if (!holds) {
            throw new IllegalArgumentException();
        }
    }

    private static void state(boolean holds) {
        if (!holds) {
            throw new IllegalStateException();
        }
    }

    private static void index(boolean holds) {
        if (!holds) {
            throw new IndexOutOfBoundsException();
        }
    }

    private static boolean isIn(long x, long low, long high) {
        return low <= x && x <= high;
    }

    int addCurve(int day) {
        argument(isIn(day, 0, 399));
        state(curves.size() < 6);
        for (Curve curve : curves) {
            state(curve.day != day);
        }
        curves.add(new Curve(day));
        return curves.size() - 1;
    }

    int addPoint(int curve, int stage, int flow) {
        index(isIn(curve, 0, curves.size() - 1));
        argument(isIn(stage, -500, 2000) && isIn(flow, 0, 1000000));
        TreeMap<Integer, Integer> points = curves.get(curve).points;
        state(points.size() < 12);
        for (Map.Entry<Integer, Integer> point : points.entrySet()) {
            state(point.getKey() != stage);
            state((point.getKey() < stage) == (point.getValue() < flow));
            state((point.getKey() > stage) == (point.getValue() > flow));
        }
        points.put(stage, flow);
        return points.size();
    }

    private static long flowOf(TreeMap<Integer, Integer> points, int stage) {
        if (points.containsKey(stage)) {
            return points.get(stage);
        }
        if (stage < points.firstKey()) {
            return 0;
        }
        int high = stage > points.lastKey() ? points.lastKey() : points.higherKey(stage);
        int low = points.lowerKey(high);
        long difference = points.get(high) - points.get(low);
        return points.get(low) + difference * (stage - low) / (high - low);
    }

    private static int stageOf(TreeMap<Integer, Integer> points, int flow) {
        for (int stage = points.firstKey(); stage <= points.lastKey(); stage++) {
            if (flowOf(points, stage) >= flow) {
                return stage;
            }
        }
        return -9999;
    }

    long flowBy(int curve, int stage) {
        index(isIn(curve, 0, curves.size() - 1));
        argument(isIn(stage, -2000, 4000));
        state(curves.get(curve).points.size() >= 2);
        return flowOf(curves.get(curve).points, stage);
    }

    int stageBy(int curve, int flow) {
        index(isIn(curve, 0, curves.size() - 1));
        argument(isIn(flow, 0, 1000000));
        state(curves.get(curve).points.size() >= 2);
        return stageOf(curves.get(curve).points, flow);
    }

    int curveOf(int day) {
        argument(isIn(day, 0, 399));
        TreeMap<Integer, Integer> numbers = new TreeMap<>();
        for (int curve = 0; curve < curves.size(); curve++) {
            numbers.put(curves.get(curve).day, curve);
        }
        return numbers.floorEntry(day) == null ? -1 : numbers.floorEntry(day).getValue();
    }

    int setShift(int day, int shift) {
        argument(isIn(day, 0, 399) && isIn(shift, -200, 200));
        state(shifts.size() < 20 || shifts.containsKey(day));
        int before = shift(day);
        shifts.put(day, shift);
        return before;
    }

    int shift(int day) {
        argument(isIn(day, 0, 399));
        if (shifts.isEmpty()) {
            return 0;
        }
        Map.Entry<Integer, Integer> earlier = shifts.floorEntry(day);
        Map.Entry<Integer, Integer> later = shifts.ceilingEntry(day);
        if (earlier == null || later == null) {
            return earlier == null ? later.getValue() : earlier.getValue();
        }
        if (earlier.getKey() == day) {
            return earlier.getValue();
        }
        int difference = later.getValue() - earlier.getValue();
        return earlier.getValue() + difference * (day - earlier.getKey()) / (later.getKey() - earlier.getKey());
    }

    private static void argumentSpan(int day, int days) {
        argument(isIn(day, 0, 399) && isIn(days, 1, 400) && isIn((long) day + days - 1, 0, 399));
    }

    int read(int day, int days, int stage, int rise) {
        argumentSpan(day, days);
        for (int i = 0; i < days; i++) {
            argument(isIn(stage + (long) rise * i, -500, 2000));
        }
        int before = 0;
        for (int i = 0; i < days; i++) {
            before += stages.put(day + i, stage + rise * i) == null ? 0 : 1;
        }
        return before;
    }

    int erase(int day, int days) {
        argumentSpan(day, days);
        int before = 0;
        for (int i = 0; i < days; i++) {
            before += stages.remove(day + i) == null ? 0 : 1;
        }
        return before;
    }

    int freeze(int day, int days, boolean isIce) {
        argumentSpan(day, days);
        int changed = 0;
        for (int i = 0; i < days; i++) {
            changed += ice[day + i] == isIce ? 0 : 1;
            ice[day + i] = isIce;
        }
        return changed;
    }

    int setRules(int newFactor, int newLimit) {
        argument(isIn(newFactor, 0, 100) && isIn(newLimit, 0, 60));
        int before = factor;
        factor = newFactor;
        limit = newLimit;
        return before;
    }

    private long toldFlow(int day) {
        if (!stages.containsKey(day) || curveOf(day) < 0) {
            return -1;
        }
        TreeMap<Integer, Integer> points = curves.get(curveOf(day)).points;
        if (points.size() < 2) {
            return -1;
        }
        long open = flowOf(points, stages.get(day) - shift(day));
        return ice[day] ? open * factor / 100 : open;
    }

    int state(int day) {
        argument(isIn(day, 0, 399));
        return stateBeside(day, toldFlow(day), flow(day));
    }

    private int stateBeside(int day, long told, long flow) {
        if (told >= 0) {
            return ice[day] ? 2 : 1;
        }
        return flow >= 0 ? 3 : 0;
    }

    long flow(int day) {
        argument(isIn(day, 0, 399));
        return flows(day, day).get(0);
    }

    private long[] toldFlows() {
        long[] told = new long[400];
        for (int day = 0; day < 400; day++) {
            told[day] = toldFlow(day);
        }
        return told;
    }

    private long flowBeside(int day, long[] told) {
        if (told[day] >= 0) {
            return told[day];
        }
        int ahead = day;
        while (ahead >= 0 && told[ahead] < 0) {
            ahead--;
        }
        int behind = day;
        while (behind < 400 && told[behind] < 0) {
            behind++;
        }
        int length = behind - ahead - 1;
        if (ahead < 0 || behind > 399 || length > limit) {
            return -1;
        }
        return told[ahead] + (told[behind] - told[ahead]) * (day - ahead) / (length + 1);
    }

    private List<Long> flows(int from, int to) {
        long[] told = toldFlows();
        List<Long> flows = new ArrayList<>();
        for (int day = from; day <= to; day++) {
            flows.add(flowBeside(day, told));
        }
        return flows;
    }

    private List<Long> flowsTold(int from, int to) {
        List<Long> flows = flows(from, to);
        flows.removeIf(flow -> flow < 0);
        return flows;
    }

    long sum(int from, int to, int what) {
        index(isIn(what, 0, 4));
        argument(isIn(from, 0, 399) && isIn(to, from, 399));
        List<Long> told = flowsTold(from, to);
        if (what == 0) {
            return told.size();
        }
        if (what == 1) {
            return told.stream().mapToLong(flow -> flow).sum();
        }
        if (told.isEmpty()) {
            return -1;
        }
        if (what == 2) {
            return Collections.max(told);
        }
        if (what == 3) {
            return Collections.min(told);
        }
        return from + flows(from, to).indexOf(Collections.max(told));
    }

    double mean(int from, int to) {
        argument(isIn(from, 0, 399) && isIn(to, from, 399));
        List<Long> told = flowsTold(from, to);
        return told.isEmpty() ? 0 : (double) told.stream().mapToLong(flow -> flow).sum() / told.size();
    }

    long reached(int percent) {
        argument(isIn(percent, 1, 100));
        List<Long> told = flowsTold(0, 399);
        told.sort(Collections.reverseOrder());
        return told.isEmpty() ? -1 : told.get(Math.max(1, told.size() * percent / 100) - 1);
    }

    int peaks(long least, int apart) {
        argument(least >= 0 && isIn(apart, 1, 100));
        List<Long> flows = flows(0, 399);
        List<Integer> left = new ArrayList<>();
        for (int day = 0; day < 400; day++) {
            if (flows.get(day) >= 0 && flows.get(day) >= least) {
                left.add(day);
            }
        }
        int peaks = 0;
        while (!left.isEmpty()) {
            int peak = left.get(0);
            for (int day : left) {
                peak = flows.get(day) > flows.get(peak) ? day : peak;
            }
            int found = peak;
            left.removeIf(day -> Math.abs(day - found) < apart);
            peaks++;
        }
        return peaks;
    }

    int spell(long bound) {
        argument(bound >= 0);
        List<Long> flows = flows(0, 399);
        int longest = 0;
        for (int first = 0; first < 400; first++) {
            int end = first;
            while (end < 400 && flows.get(end) >= 0 && flows.get(end) < bound) {
                end++;
            }
            longest = Math.max(longest, end - first);
        }
        return longest;
    }

    int measure(int day, int stage, int flow) {
        argument(isIn(day, 0, 399) && isIn(stage, -500, 2000) && isIn(flow, 0, 1000000));
        state(measurements.size() < 40);
        measurements.add(new int[] {day, stage, flow});
        return measurements.size();
    }

    long deviation(int measurement) {
        index(isIn(measurement, 0, measurements.size() - 1));
        int[] row = measurements.get(measurement);
        int curve = curveOf(row[0]);
        state(curve >= 0 && curves.get(curve).points.size() >= 2);
        return row[2] - flowBy(curve, row[1] - shift(row[0]));
    }

    int wouldShift(int measurement) {
        index(isIn(measurement, 0, measurements.size() - 1));
        int[] row = measurements.get(measurement);
        int curve = curveOf(row[0]);
        state(curve >= 0 && curves.get(curve).points.size() >= 2);
        int stage = stageBy(curve, row[2]);
        state(stage != -9999);
        return row[1] - stage;
    }

    int count(int what) {
        index(isIn(what, 0, 4));
        int icy = 0;
        for (boolean isIce : ice) {
            icy += isIce ? 1 : 0;
        }
        return new int[] {curves.size(), shifts.size(), stages.size(), icy, measurements.size()}[what];
    }

    long digest() {
        List<Long> numbers = new ArrayList<>();
        for (int what = 0; what < 5; what++) {
            numbers.add((long) count(what));
        }
        numbers.add((long) factor);
        numbers.add((long) limit);
        long[] told = toldFlows();
        for (int day = 0; day < 400; day++) {
            long flow = flowBeside(day, told);
            numbers.add((long) shift(day));
            numbers.add((long) stateBeside(day, told[day], flow));
            numbers.add(flow);
        }
        long d = 317;
        for (long number : numbers) {
            d = d * 31 + number;
        }
        return d;
    }
}
