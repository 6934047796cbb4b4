/** Promises 7 and 8: setShift, shift. */
public final class ShiftsTest {
    private static final Checks checks = new Checks();

    public static void main(String[] args) {
        shiftsAreTold();
        shiftsAreToldInAnyOrder();
        twentyShiftsAreTaken();
        shiftsAreRefused();
        shiftBetweenDays();
        shiftIsCutTowardsZero();
        shiftOfDayIsRefused();
        checks.finish();
    }

    private static void shiftsAreTold() {
        checks.part("7 setShift");
        GaugeBook book = new GaugeBook();
        checks.equal("setShift(10, 200)", 0, book.setShift(10, 200));
        checks.equal("setShift(10, -200)", 200, book.setShift(10, -200));
        checks.equal("count(1)", 1, book.count(1));
        checks.equal("setShift(20, 0)", -200, book.setShift(20, 0));
        checks.equal("setShift(15, 7)", -100, book.setShift(15, 7));
        checks.equal("setShift(0, 1)", -200, book.setShift(0, 1));
        checks.equal("setShift(399, 2)", 0, book.setShift(399, 2));
        checks.equal("count(1)", 5, book.count(1));
        checks.equal("setShift(15, 0)", 7, book.setShift(15, 0));
        checks.equal("count(1)", 5, book.count(1));
    }

    private static void shiftsAreToldInAnyOrder() {
        checks.part("7 setShift in any order");
        GaugeBook book = new GaugeBook();
        int[] days = {200, 100, 300, 150, 399, 0};
        for (int day : days) {
            book.setShift(day, day / 2);
        }
        for (int day : days) {
            checks.equal("shift(" + day + ")", day / 2, book.shift(day));
        }
        checks.equal("shift(1)", 0, book.shift(1));
        checks.equal("shift(2)", 1, book.shift(2));
        checks.equal("shift(399)", 199, book.shift(399));
    }

    private static void twentyShiftsAreTaken() {
        checks.part("7 setShift up to 20");
        GaugeBook book = new GaugeBook();
        for (int i = 0; i < 20; i++) {
            book.setShift(i * 7 % 20 * 10, i);
            checks.equal("count(1)", i + 1, book.count(1));
        }
        refuseShift(book, 1, 0, Checks.STATE);
        refuseShift(book, 399, 0, Checks.STATE);
        refuseShift(book, 400, 0, Checks.ARGUMENT);
        refuseShift(book, 1, 201, Checks.ARGUMENT);
        for (int i = 0; i < 20; i++) {
            int day = i * 7 % 20 * 10;
            checks.equal("shift(" + day + ")", i, book.shift(day));
        }
        checks.equal("setShift(190, 100)", 17, book.setShift(190, 100));
        checks.equal("setShift(0, -100)", 0, book.setShift(0, -100));
        checks.equal("count(1)", 20, book.count(1));
        checks.equal("shift(399)", 100, book.shift(399));
        checks.equal("shift(0)", -100, book.shift(0));
    }

    private static void shiftsAreRefused() {
        checks.part("7 setShift refused");
        GaugeBook book = new GaugeBook();
        book.setShift(3, 4);
        refuseShift(book, -1, 0, Checks.ARGUMENT);
        refuseShift(book, 400, 0, Checks.ARGUMENT);
        refuseShift(book, 3, 201, Checks.ARGUMENT);
        refuseShift(book, 3, -201, Checks.ARGUMENT);
        refuseShift(book, 3, Integer.MIN_VALUE, Checks.ARGUMENT);
        refuseShift(book, 3, Integer.MAX_VALUE, Checks.ARGUMENT);
        refuseShift(book, Integer.MIN_VALUE, 0, Checks.ARGUMENT);
        refuseShift(book, Integer.MAX_VALUE, 0, Checks.ARGUMENT);
        checks.equal("shift(3)", 4, book.shift(3));
    }

    private static void refuseShift(GaugeBook book, int day, int shift, Class<? extends RuntimeException> due) {
        checks.refused("setShift(" + day + ", " + shift + ")", book, due, () -> book.setShift(day, shift));
    }

    private static void shiftBetweenDays() {
        checks.part("8 shift");
        GaugeBook book = new GaugeBook();
        checks.equal("shift(0) of none", 0, book.shift(0));
        book.setShift(100, 20);
        checks.equal("shift(0) of one", 20, book.shift(0));
        checks.equal("shift(100) of one", 20, book.shift(100));
        checks.equal("shift(399) of one", 20, book.shift(399));
        book.setShift(110, -20);
        book.setShift(120, 40);
        checks.equal("shift(0)", 20, book.shift(0));
        checks.equal("shift(99)", 20, book.shift(99));
        checks.equal("shift(100)", 20, book.shift(100));
        checks.equal("shift(101)", 16, book.shift(101));
        checks.equal("shift(109)", -16, book.shift(109));
        checks.equal("shift(110)", -20, book.shift(110));
        checks.equal("shift(111)", -14, book.shift(111));
        checks.equal("shift(120)", 40, book.shift(120));
        checks.equal("shift(121)", 40, book.shift(121));
        checks.equal("shift(399)", 40, book.shift(399));
    }

    private static void shiftIsCutTowardsZero() {
        checks.part("8 shift, cut");
        GaugeBook book = new GaugeBook();
        book.setShift(10, 5);
        book.setShift(13, -5);
        book.setShift(20, 0);
        checks.equal("shift(11)", 2, book.shift(11));
        checks.equal("shift(12)", -1, book.shift(12));
        checks.equal("shift(14)", -5, book.shift(14));
        checks.equal("shift(15)", -4, book.shift(15));
        checks.equal("shift(19)", -1, book.shift(19));
        GaugeBook low = new GaugeBook();
        low.setShift(0, -1);
        low.setShift(3, -3);
        checks.equal("shift(1)", -1, low.shift(1));
        checks.equal("shift(2)", -2, low.shift(2));
    }

    private static void shiftOfDayIsRefused() {
        checks.part("8 shift refused");
        GaugeBook book = new GaugeBook();
        book.setShift(399, 9);
        for (int day : new int[] {-1, 400, Integer.MIN_VALUE, Integer.MAX_VALUE}) {
            checks.refused("shift(" + day + ")", book, Checks.ARGUMENT, () -> book.shift(day));
        }
    }
}
