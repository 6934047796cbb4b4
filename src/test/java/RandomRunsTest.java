import java.util.ArrayList;
import java.util.List;
import java.util.function.Supplier;

/** Holds GaugeBook against PlainBook in runs of up to 512 calls, the same ones each time. */
public final class RandomRunsTest {
    private static final int RUNS = 150;
    private static final int CALLS = 512;
    private static final int COMPLAINTS = 10;

    private final List<String> told = new ArrayList<>();
    private final int run;
    private final int style;
    private long seed;
    private GaugeBook book;
    private PlainBook plain;

    private RandomRunsTest(int run) {
        this.run = run;
        style = run % 5;
        seed = 0x9E3779B97F4A7C15L * (run + 1);
        book = new GaugeBook();
        plain = new PlainBook();
    }

    public static void main(String[] args) {
        int wrong = 0;
        for (int run = 0; run < RUNS && wrong < COMPLAINTS; run++) {
            if (!new RandomRunsTest(run).agrees()) {
                wrong++;
            }
        }
        System.out.println(RUNS + " runs, " + wrong + " wrong");
        if (wrong != 0) {
            System.exit(1);
        }
    }

    private boolean agrees() {
        if (style == 3 && !fillAgrees()) {
            return false;
        }
        while (told.size() < CALLS - 1) {
            if (!nextCallAgrees()) {
                return false;
            }
        }
        return same("digest()", () -> book.digest(), () -> plain.digest());
    }

    /** A linear congruence: the runs are the same ones on each machine and each day. */
    private int any(int low, int high) {
        seed = seed * 6364136223846793005L + 1442695040888963407L;
        return (int) (low + Math.floorMod(seed >>> 33, (long) high - low + 1));
    }

    private int wild(int low, int high) {
        int[] edges = {low - 1, low, high, high + 1, Integer.MIN_VALUE, Integer.MAX_VALUE, 0, -1};
        return any(0, 19) == 0 ? edges[any(0, edges.length - 1)] : any(low, high);
    }

    private int day() {
        return style == 1 ? wild(0, 30) : wild(0, 399);
    }

    private int days() {
        return any(0, 3) == 0 ? wild(1, 400) : wild(1, 12);
    }

    private int stage() {
        return style == 2 ? wild(0, 40) : wild(-500, 2000);
    }

    private int flowTold() {
        return style == 2 ? wild(0, 200) : wild(0, 1000000);
    }

    /** Fills the book but for one of each, so that the calls that follow meet the bounds of their numbers. */
    private boolean fillAgrees() {
        boolean agrees = true;
        for (int curve = 0; curve < 5; curve++) {
            agrees &= addCurveAgrees(any(0, 399));
            for (int i = 0; i < 11; i++) {
                agrees &= addPointAgrees(curve, i * 200 - any(0, 400), i * 90000 + any(0, 89999));
            }
        }
        for (int i = 0; i < 19; i++) {
            agrees &= setShiftAgrees(any(0, 399), any(-200, 200));
        }
        for (int i = 0; i < 39; i++) {
            agrees &= measureAgrees(any(0, 399), any(-500, 2000), any(0, 1000000));
        }
        return agrees;
    }

    private boolean addCurveAgrees(int day) {
        return same("addCurve(" + day + ")", () -> book.addCurve(day), () -> plain.addCurve(day));
    }

    private boolean addPointAgrees(int curve, int stage, int flow) {
        return same("addPoint(" + curve + ", " + stage + ", " + flow + ")",
                () -> book.addPoint(curve, stage, flow), () -> plain.addPoint(curve, stage, flow));
    }

    private boolean setShiftAgrees(int day, int shift) {
        return same("setShift(" + day + ", " + shift + ")", () -> book.setShift(day, shift),
                () -> plain.setShift(day, shift));
    }

    private boolean measureAgrees(int day, int stage, int flow) {
        return same("measure(" + day + ", " + stage + ", " + flow + ")", () -> book.measure(day, stage, flow),
                () -> plain.measure(day, stage, flow));
    }

    private boolean nextCallAgrees() {
        int kind = any(0, 99);
        if (kind < 12) {
            return curveCall();
        }
        if (kind < 55) {
            return changeCall();
        }
        if (kind < 70) {
            return dayCall();
        }
        if (kind < 88) {
            return tellingCall();
        }
        return measurementCall();
    }

    private boolean curveCall() {
        int a = wild(0, 5);
        int stage = stage();
        int flow = any(0, 1) == 0 ? flowTold() : Math.max(0, (stage + 500) * 300 + any(-900, 900));
        switch (any(0, 5)) {
            case 0:
                return addCurveAgrees(any(0, 2) == 0 ? 0 : day());
            case 1: {
                int s = wild(-2000, 4000);
                return same("flowBy(" + a + ", " + s + ")", () -> book.flowBy(a, s), () -> plain.flowBy(a, s));
            }
            case 2:
                return same("stageBy(" + a + ", " + flow + ")", () -> book.stageBy(a, flow),
                        () -> plain.stageBy(a, flow));
            default:
                return addPointAgrees(a, stage, flow);
        }
    }

    private boolean changeCall() {
        int day = day();
        int days = days();
        switch (any(0, 9)) {
            case 0:
            case 1:
                return setShiftAgrees(day, style == 2 ? wild(-9, 9) : wild(-200, 200));
            case 2:
            case 3:
                return same("erase(" + day + ", " + days + ")", () -> book.erase(day, days),
                        () -> plain.erase(day, days));
            case 4: {
                boolean isIce = any(0, 1) == 0;
                return same("freeze(" + day + ", " + days + ", " + isIce + ")",
                        () -> book.freeze(day, days, isIce), () -> plain.freeze(day, days, isIce));
            }
            case 5: {
                int factor = wild(0, 100);
                int limit = any(0, 1) == 0 ? wild(0, 60) : wild(0, 8);
                return same("setRules(" + factor + ", " + limit + ")", () -> book.setRules(factor, limit),
                        () -> plain.setRules(factor, limit));
            }
            default: {
                int stage = stage();
                int rise = any(0, 2) == 0 ? 0 : wild(-9, 9);
                return same("read(" + day + ", " + days + ", " + stage + ", " + rise + ")",
                        () -> book.read(day, days, stage, rise), () -> plain.read(day, days, stage, rise));
            }
        }
    }

    private boolean dayCall() {
        int day = day();
        switch (any(0, 3)) {
            case 0:
                return same("curveOf(" + day + ")", () -> book.curveOf(day), () -> plain.curveOf(day));
            case 1:
                return same("shift(" + day + ")", () -> book.shift(day), () -> plain.shift(day));
            case 2:
                return same("state(" + day + ")", () -> book.state(day), () -> plain.state(day));
            default:
                return same("flow(" + day + ")", () -> book.flow(day), () -> plain.flow(day));
        }
    }

    private boolean tellingCall() {
        int from = day();
        int to = any(0, 2) == 0 ? day() : 399;
        long limit = any(0, 3) == 0 ? wild(0, 300) : (long) wild(0, 1000000) * any(1, 3);
        switch (any(0, 5)) {
            case 0:
            case 1: {
                int what = wild(0, 4);
                return same("sum(" + from + ", " + to + ", " + what + ")", () -> book.sum(from, to, what),
                        () -> plain.sum(from, to, what));
            }
            case 2:
                return same("mean(" + from + ", " + to + ")", () -> book.mean(from, to),
                        () -> plain.mean(from, to));
            case 3: {
                int percent = wild(1, 100);
                return same("reached(" + percent + ")", () -> book.reached(percent),
                        () -> plain.reached(percent));
            }
            case 4: {
                int apart = any(0, 1) == 0 ? wild(1, 100) : wild(1, 9);
                return same("peaks(" + limit + ", " + apart + ")", () -> book.peaks(limit, apart),
                        () -> plain.peaks(limit, apart));
            }
            default:
                return same("spell(" + limit + ")", () -> book.spell(limit), () -> plain.spell(limit));
        }
    }

    private boolean measurementCall() {
        int a = style == 3 ? wild(0, 40) : wild(0, 15);
        switch (any(0, 5)) {
            case 0:
            case 1:
                return measureAgrees(day(), stage(), flowTold());
            case 2:
                return same("deviation(" + a + ")", () -> book.deviation(a), () -> plain.deviation(a));
            case 3:
                return same("wouldShift(" + a + ")", () -> book.wouldShift(a), () -> plain.wouldShift(a));
            case 4: {
                int what = wild(0, 4);
                return same("count(" + what + ")", () -> book.count(what), () -> plain.count(what));
            }
            default:
                return any(0, 3) != 0 || same("digest()", () -> book.digest(), () -> plain.digest());
        }
    }

    private boolean same(String call, Supplier<Object> asked, Supplier<Object> due) {
        String answer = answerOf(asked);
        String dueAnswer = answerOf(due);
        told.add(call + " -> " + dueAnswer);
        if (answer.equals(dueAnswer)) {
            return true;
        }
        System.out.println("run " + run + ", call " + told.size() + ": " + call + " answered " + answer
                + ", due is " + dueAnswer);
        return false;
    }

    private static String answerOf(Supplier<Object> call) {
        try {
            return String.valueOf(call.get());
        } catch (RuntimeException e) {
            return "throws." + e.getClass().getSimpleName();
        }
    }
}
