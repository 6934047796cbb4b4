/** Promises 7 and 8, and what the terms say of shifts: setShift, shift. */
public final class ShiftsTest {
    private static final int MIN = Integer.MIN_VALUE;
    private static final int MAX = Integer.MAX_VALUE;

    public static void main(String[] args) {
        shiftsAreTold();
        shiftBeforeIsReckonedToo();
        shiftsAreToldInAnyOrder();
        shiftsAreForDays0To399();
        shiftsAreInBounds();
        twentyShiftsAreTaken();
        fullBookTakesShiftsInTheirPlace();
        setShiftThrowsTheFirstNamed();
        shiftOfNoneTold();
        shiftAheadOfFirstAndBehindLast();
        shiftBetweenToldDays();
        shiftIsCutTowardsZero();
        shiftBetweenFarDays();
        shiftIsOfDays0To399();
        shiftQuestionsChangeNothing();
        Run.finish();
    }

    private static void shiftsAreTold() {
        new Run("7 setShift: in the place of one that was told").rows("setShift(10, 50) -> 0", "count(1) -> 1",
                "shift(10) -> 50", "setShift(10, -70) -> 50", "count(1) -> 1", "shift(10) -> -70",
                "setShift(10, 0) -> -70", "count(1) -> 1", "shift(10) -> 0", "setShift(10, 0) -> 0",
                "count(1) -> 1", "setShift(9, 1) -> 0", "count(1) -> 2", "setShift(11, 2) -> 0", "count(1) -> 3",
                "shift(9) -> 1", "shift(10) -> 0", "shift(11) -> 2");
    }

    private static void shiftBeforeIsReckonedToo() {
        new Run("7 setShift: the shift of this day before").rows("setShift(10, -200) -> 0",
                "setShift(20, 0) -> -200", "setShift(15, 7) -> -100", "setShift(14, 3) -> -35",
                "setShift(0, 1) -> -200", "setShift(399, 2) -> 0", "setShift(9, 9) -> -179", "count(1) -> 7",
                "setShift(15, 0) -> 7", "setShift(399, 5) -> 2", "setShift(398, 5) -> 4", "count(1) -> 8");
    }

    private static void shiftsAreToldInAnyOrder() {
        Run run = new Run("7 setShift: in any order of days");
        int[] days = {200, 100, 300, 150, 399, 0};
        for (int day : days) {
            run.rows("setShift(" + day + ", " + day / 2 + ")");
        }
        for (int day : days) {
            run.due("shift(" + day + ")", day / 2);
        }
        run.rows("shift(1) -> 0", "shift(2) -> 1", "shift(398) -> 198", "shift(399) -> 199");
    }

    private static void shiftsAreForDays0To399() {
        new Run("7 setShift: day is 0 to 399").rows(Run.SOME_OF_ALL)
                .illegalArgument("setShift(-1, 5)", "setShift(400, 5)", "setShift(" + MIN + ", 5)",
                        "setShift(" + MAX + ", 5)")
                .rows("setShift(0, 5) -> -20", "setShift(1, 6) -> 5", "setShift(399, 7) -> 30",
                        "setShift(398, 8) -> 8", "shift(0) -> 5", "shift(1) -> 6", "shift(398) -> 8",
                        "shift(399) -> 7");
    }

    private static void shiftsAreInBounds() {
        new Run("7 setShift: shift is -200 to 200").rows(Run.SOME_OF_ALL)
                .illegalArgument("setShift(50, -201)", "setShift(50, 201)", "setShift(50, " + MIN + ")",
                        "setShift(50, " + MAX + ")", "setShift(3, -201)", "setShift(3, 201)")
                .rows("setShift(50, -200) -> -20", "setShift(50, -199) -> -200", "setShift(50, 199) -> -199",
                        "setShift(50, 200) -> 199", "setShift(399, -200) -> 30", "shift(399) -> -200");
    }

    private static Run withShifts(String title, int number) {
        Run run = new Run(title);
        for (int i = 0; i < number; i++) {
            int place = i * 7 % 20;
            run.rows("setShift(" + (place * 10 + 5) + ", " + place + ")").due("count(1)", i + 1);
        }
        return run;
    }

    private static void twentyShiftsAreTaken() {
        Run run = withShifts("7 setShift: at most 20", 20);
        run.illegalState("setShift(0, 0)", "setShift(4, 0)", "setShift(6, 3)", "setShift(100, 10)",
                "setShift(194, 18)", "setShift(196, 19)", "setShift(399, 19)");
        for (int place = 0; place < 20; place++) {
            run.due("shift(" + (place * 10 + 5) + ")", place);
        }
        run.rows("count(1) -> 20", "shift(0) -> 0", "shift(399) -> 19");
        // Of 20 days taken in their order, place 13 is the one that 19 shifts leave out.
        withShifts("7 setShift: the 20th ahead of all others", 19).rows("setShift(0, -9) -> 0", "count(1) -> 20",
                "shift(0) -> -9", "shift(5) -> 0").illegalState("setShift(135, 0)");
        withShifts("7 setShift: the 20th behind all others", 19).rows("setShift(399, -9) -> 19", "count(1) -> 20",
                "shift(399) -> -9", "shift(195) -> 19").illegalState("setShift(135, 0)");
        Run falling = new Run("7 setShift: 20 days, the last one first");
        for (int i = 0; i < 20; i++) {
            falling.rows("setShift(" + (399 - i) + ", " + i + ")");
        }
        falling.illegalState("setShift(379, 20)").rows("shift(379) -> 19", "shift(380) -> 19", "shift(399) -> 0");
    }

    private static void fullBookTakesShiftsInTheirPlace() {
        withShifts("7 setShift: 20, and one for this day", 20).rows("setShift(5, -100) -> 0",
                "setShift(195, 100) -> 19", "setShift(105, 50) -> 10", "count(1) -> 20", "shift(0) -> -100",
                "shift(5) -> -100", "shift(105) -> 50", "shift(399) -> 100", "shift(115) -> 11")
                .illegalState("setShift(104, 50)", "setShift(106, 50)", "setShift(0, -100)");
    }

    private static void setShiftThrowsTheFirstNamed() {
        withShifts("7 setShift: the exception that is named first", 20).illegalArgument("setShift(400, 0)",
                "setShift(-1, 0)", "setShift(1, 201)", "setShift(1, -201)", "setShift(400, 201)",
                "setShift(5, 201)").illegalState("setShift(1, 0)");
    }

    private static void shiftOfNoneTold() {
        new Run("8 shift: 0 if none is told").rows("shift(0) -> 0", "shift(399) -> 0", "read(0, 400, 5, 0)",
                "shift(200) -> 0", "setShift(200, 9) -> 0", "shift(0) -> 9", "shift(199) -> 9", "shift(200) -> 9",
                "shift(201) -> 9", "shift(399) -> 9");
        new Run("8 shift: a told one of 0").rows("setShift(100, 0)", "setShift(102, 10)", "shift(99) -> 0",
                "shift(100) -> 0", "shift(101) -> 5");
    }

    private static void shiftAheadOfFirstAndBehindLast() {
        new Run("8 shift: ahead of the first one and behind the last one").rows("setShift(100, 20)",
                "setShift(110, -20)", "setShift(120, 40)", "shift(0) -> 20", "shift(98) -> 20", "shift(99) -> 20",
                "shift(100) -> 20", "shift(101) -> 16", "shift(119) -> 34", "shift(120) -> 40", "shift(121) -> 40",
                "shift(122) -> 40", "shift(399) -> 40");
        new Run("8 shift: told for the first and the last day").rows("setShift(0, 1)", "setShift(399, 200)",
                "shift(0) -> 1", "shift(1) -> 1", "shift(2) -> 1", "shift(3) -> 2",
                "shift(397) -> 199", "shift(398) -> 199", "shift(399) -> 200");
    }

    private static void shiftBetweenToldDays() {
        new Run("8 shift: between two days next to each other").rows("setShift(100, 20)", "setShift(120, 40)",
                "shift(101) -> 21", "shift(110) -> 30", "shift(119) -> 39", "setShift(110, -20) -> 30",
                "shift(101) -> 16", "shift(109) -> -16", "shift(110) -> -20", "shift(111) -> -14",
                "shift(119) -> 34", "setShift(111, 200) -> -14", "shift(110) -> -20", "shift(111) -> 200",
                "shift(112) -> 183");
    }

    private static void shiftIsCutTowardsZero() {
        new Run("8 shift: divided is cut towards 0").rows("setShift(10, 5)", "setShift(13, -5)", "setShift(20, 0)",
                "shift(11) -> 2", "shift(12) -> -1", "shift(14) -> -5", "shift(15) -> -4", "shift(19) -> -1");
        new Run("8 shift: a small difference is cut to 0").rows("setShift(0, -1)", "setShift(3, -2)",
                "shift(1) -> -1", "shift(2) -> -1", "shift(3) -> -2", "setShift(6, -1)", "shift(4) -> -2",
                "shift(5) -> -2");
    }

    private static void shiftBetweenFarDays() {
        new Run("8 shift: the widest difference of the farthest days").rows("setShift(0, 200)",
                "setShift(399, -200)", "shift(1) -> 199", "shift(2) -> 198", "shift(199) -> 1", "shift(200) -> 0",
                "shift(201) -> -1", "shift(398) -> -198", "shift(399) -> -200");
    }

    private static void shiftIsOfDays0To399() {
        new Run("8 shift: day is 0 to 399").rows(Run.SOME_OF_ALL).rows("shift(0) -> -20", "shift(1) -> -20",
                "shift(398) -> 30", "shift(399) -> 30")
                .illegalArgument("shift(-1)", "shift(400)", "shift(" + MIN + ")", "shift(" + MAX + ")");
    }

    private static void shiftQuestionsChangeNothing() {
        new Run("8 shift changes nothing").rows(Run.SOME_OF_ALL).changesNothing("shift(0)", "shift(50)",
                "shift(55)", "shift(399)");
    }
}
