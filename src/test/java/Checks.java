import java.util.ArrayList;
import java.util.List;

/** Counts the answers that are not the ones that are due, and prints them. */
final class Checks {
    static final Class<IllegalArgumentException> ARGUMENT = IllegalArgumentException.class;
    static final Class<IllegalStateException> STATE = IllegalStateException.class;
    static final Class<IndexOutOfBoundsException> INDEX = IndexOutOfBoundsException.class;

    private String part = "";
    private int asked;
    private int wrong;

    void part(String name) {
        part = name;
    }

    void equal(String call, long due, long answer) {
        asked++;
        if (answer != due) {
            complain(call + " answered " + answer + ", due is " + due);
        }
    }

    void equalDouble(String call, double due, double answer) {
        asked++;
        if (answer != due) {
            complain(call + " answered " + answer + ", due is " + due);
        }
    }

    /** The call throws just this exception, and the book answers as it did before. */
    void refused(String call, GaugeBook book, Class<? extends RuntimeException> due, Runnable run) {
        asked++;
        List<Long> before = sight(book);
        Class<?> thrown = thrownBy(run);
        if (thrown != due) {
            complain(call + " threw " + thrown + ", due is " + due);
        }
        if (!sight(book).equals(before)) {
            complain(call + " threw, but changed the book");
        }
    }

    void finish() {
        System.out.println(asked + " checks, " + wrong + " wrong");
        if (wrong != 0) {
            System.exit(1);
        }
    }

    static Class<?> thrownBy(Runnable run) {
        try {
            run.run();
        } catch (RuntimeException e) {
            return e.getClass();
        }
        return null;
    }

    /** What can be seen of a book without changing it. */
    private static List<Long> sight(GaugeBook book) {
        List<Long> seen = new ArrayList<>();
        seen.add(book.digest());
        for (int day = 0; day < 400; day++) {
            seen.add((long) book.curveOf(day));
        }
        for (int curve = 0; curve < book.count(0); curve++) {
            for (int stage = -2000; stage <= 4000; stage += 7) {
                seen.add(flowOrMark(book, curve, stage));
            }
        }
        for (int measurement = 0; measurement < book.count(4); measurement++) {
            seen.add(deviationOrMark(book, measurement));
        }
        return seen;
    }

    private static long flowOrMark(GaugeBook book, int curve, int stage) {
        try {
            return book.flowBy(curve, stage);
        } catch (IllegalStateException e) {
            return Long.MIN_VALUE;
        }
    }

    private static long deviationOrMark(GaugeBook book, int measurement) {
        try {
            return book.deviation(measurement);
        } catch (IllegalStateException e) {
            return Long.MIN_VALUE;
        }
    }

    private void complain(String text) {
        wrong++;
        System.out.println(part + ": " + text);
    }
}
