import java.util.ArrayList;
import java.util.List;

/**
 * What later calls tell: two books with the same past, one of them with one call more, are asked
 * and changed alike. No book is used for more calls than the document allows; so there are many.
 */
final class Later {
    private static final List<List<Call>> GROUPS = groups();

    private Later() {
    }

    /** How later calls show that this call changed a book with this past; null if they do not. */
    static String difference(List<Call> past, Call more) {
        int room = Run.MOST_CALLS - past.size() - 2;
        if (room < 1) {
            throw new IllegalStateException("the run is too long to ask what later calls tell");
        }
        for (List<Call> group : GROUPS) {
            for (int first = 0; first < group.size(); first += room) {
                List<Call> asked = group.subList(first, Math.min(first + room, group.size()));
                String difference = difference(past, more, asked);
                if (difference != null) {
                    return difference;
                }
            }
        }
        return null;
    }

    /** Asked twice: once where nothing was asked ahead, once where all flows were, and may be kept. */
    private static String difference(List<Call> past, Call more, List<Call> asked) {
        for (int asking = 0; asking < 2; asking++) {
            GaugeBook without = bookWith(past);
            GaugeBook with = bookWith(past);
            if (asking == 1) {
                without.digest();
                with.digest();
            }
            more.answer(with);
            for (Call call : asked) {
                String due = call.answer(without);
                String answer = call.answer(with);
                if (!answer.equals(due)) {
                    return call.text() + " behind it answers " + answer + ", without it " + due;
                }
            }
        }
        return null;
    }

    private static GaugeBook bookWith(List<Call> past) {
        GaugeBook book = new GaugeBook();
        for (Call call : past) {
            call.answer(book);
        }
        return book;
    }

    private static List<List<Call>> groups() {
        List<List<Call>> groups = new ArrayList<>();
        groups.add(curvesAndFlows());
        groups.add(tellings());
        groups.add(eachDay("curveOf(", ")"));
        groups.add(eachDay("erase(", ", 1)"));
        groups.add(eachDay("freeze(", ", 1, true)"));
        groups.add(changesOfCurves());
        groups.add(changesOfDays());
        return groups;
    }

    private static List<Call> eachDay(String ahead, String behind) {
        List<Call> calls = new ArrayList<>();
        for (int day = 0; day < 400; day++) {
            calls.add(new Call(ahead + day + behind));
        }
        return calls;
    }

    private static List<Call> curvesAndFlows() {
        List<Call> calls = new ArrayList<>();
        calls.add(new Call("digest()"));
        for (int curve = 0; curve < 6; curve++) {
            for (int stage = -550; stage <= 2050; stage += 50) {
                calls.add(new Call("flowBy(" + curve + ", " + stage + ")"));
            }
            for (int flow : new int[] {0, 1, 5, 100, 999, 1000, 5000, 30000, 400000, 1000000}) {
                calls.add(new Call("stageBy(" + curve + ", " + flow + ")"));
            }
        }
        return calls;
    }

    private static List<Call> tellings() {
        List<Call> calls = new ArrayList<>();
        for (int what = 0; what < 5; what++) {
            calls.add(new Call("count(" + what + ")"));
            calls.add(new Call("sum(0, 399, " + what + ")"));
        }
        for (int measurement = 0; measurement < 41; measurement++) {
            calls.add(new Call("deviation(" + measurement + ")"));
            calls.add(new Call("wouldShift(" + measurement + ")"));
        }
        for (int percent : new int[] {1, 50, 100}) {
            calls.add(new Call("reached(" + percent + ")"));
        }
        calls.add(new Call("mean(0, 399)"));
        calls.add(new Call("peaks(0, 3)"));
        calls.add(new Call("spell(1000)"));
        calls.add(new Call("digest()"));
        return calls;
    }

    /** A curve that is not complete, and a point that found no room, show by what comes next. */
    private static List<Call> changesOfCurves() {
        List<Call> calls = new ArrayList<>();
        for (int curve = 0; curve < 6; curve++) {
            calls.add(new Call("addPoint(" + curve + ", 2000, 1000000)"));
            calls.add(new Call("addPoint(" + curve + ", -500, 0)"));
            calls.add(new Call("addPoint(" + curve + ", 777, 555555)"));
            for (int stage = -500; stage <= 2000; stage += 250) {
                calls.add(new Call("flowBy(" + curve + ", " + stage + ")"));
            }
        }
        calls.add(new Call("digest()"));
        for (int day : new int[] {0, 399, 123, 321, 77, 200, 250}) {
            calls.add(new Call("addCurve(" + day + ")"));
            calls.add(new Call("addPoint(5, 100, " + day + ")"));
            calls.add(new Call("digest()"));
        }
        return calls;
    }

    private static List<Call> changesOfDays() {
        List<Call> calls = new ArrayList<>();
        for (int i = 0; i < 41; i++) {
            calls.add(new Call("measure(" + i * 9 + ", 150, 500)"));
            calls.add(new Call("deviation(" + i + ")"));
        }
        for (int i = 0; i < 21; i++) {
            calls.add(new Call("setShift(" + i * 19 + ", " + (i * 19 - 190) + ")"));
        }
        calls.add(new Call("digest()"));
        calls.add(new Call("setRules(50, 60)"));
        calls.add(new Call("digest()"));
        calls.add(new Call("freeze(100, 200, true)"));
        calls.add(new Call("read(0, 400, 130, 1)"));
        calls.add(new Call("digest()"));
        return calls;
    }
}
