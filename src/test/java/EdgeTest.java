import java.io.IOException;

/** Each sentence under 'Promise 1' to 'Promise 21' that names a boundary case, by a test of its own. */
public final class EdgeTest {
    private static final Check CHECK = new Check("EdgeTest");
    private static final String AS_TOLD = "Throws `IndexOutOfBoundsException` as told";
    private static Sentences sentences;

    private EdgeTest() {
    }

    public static void main(String[] args) throws IOException {
        sentences = new Sentences(CHECK, args);
        newObjectAndRules();
        tellingShifts();
        hoursAndPay();
        runningWeeks();
        holidays();
        sentences.everyPromisedLineHasATest();
        CHECK.end();
    }

    private static void of(int promise, String words, Runnable test) {
        sentences.of("Promise " + promise, words, test);
    }

    private static void newObjectAndRules() {
        of(1, "Begins without shifts.", EdgeTest::beginsWithoutShifts);
        of(2, "- `rate`: 1 to 10000", EdgeTest::rateRange);
        of(2, "- `equal`: rate to 10000", EdgeTest::equalRange);
        of(2, AS_TOLD, EdgeTest::setRatesOfNoSite);
        of(2, "Throws `IllegalArgumentException` if rate or equal is out of range", EdgeTest::setRatesOutOfRange);
        of(3, "- `margin`: 0 to 100", EdgeTest::marginRange);
        of(3, "- `low`: 0 to margin", EdgeTest::lowRange);
        of(3, "- `volume`: 1 to 1000", EdgeTest::volumeRange);
        of(3, AS_TOLD, EdgeTest::setMarginsOfNoSite);
        of(3, "Throws `IllegalArgumentException` if margin, low or volume is out of range",
                EdgeTest::setMarginsOutOfRange);
        of(4, "- `span`: 1 to 12", EdgeTest::spanRange);
        of(4, "- `gap`: 0 to 6", EdgeTest::gapRange);
        of(4, "Throws `IllegalArgumentException` if span or gap is out of range", EdgeTest::setEqualOutOfRange);
    }

    private static void tellingShifts() {
        of(5, "- `day`: 0 to 139", EdgeTest::dayRange);
        of(5, "- `hours`: 1 to 16", EdgeTest::hoursRange);
        of(5, "Returns its number.", EdgeTest::numberOfAShift);
        of(5, AS_TOLD, EdgeTest::shiftOfNoWorkerOrSite);
        of(5, "Throws `IllegalArgumentException` if day or hours is out of range", EdgeTest::shiftOutOfRange);
        String shiftRefused = "Throws `IllegalStateException` if there are 80, or the worker would have more than"
                + " 24 hours on the day";
        of(5, shiftRefused, EdgeTest::shiftRefused);
        of(6, "- `hours`: 0 to 16", EdgeTest::correctedRange);
        of(6, "Returns the hours before.", EdgeTest::hoursBefore);
        of(6, AS_TOLD, EdgeTest::correctNoShift);
        of(6, "Throws `IllegalArgumentException` if hours is out of range", EdgeTest::correctOutOfRange);
        String correctRefused = "Throws `IllegalStateException` if the worker would have more than 24 hours on the"
                + " day, or would have taken more holiday than it earns";
        of(6, correctRefused, EdgeTest::correctRefused);
        of(7, "those with 0 hours included", EdgeTest::shiftsOfZeroHours);
    }

    private static void hoursAndPay() {
        of(8, "Returns the hours of a worker in a week.", EdgeTest::hoursOfAWeek);
        of(8, AS_TOLD, EdgeTest::hoursOfNone);
        of(9, "Returns the hours of a shift that are overtime.", EdgeTest::overtimeNoneAndAll);
        of(9, AS_TOLD, EdgeTest::overtimeOfNoShift);
        of(10, AS_TOLD, EdgeTest::hasEqualOfNone);
        of(11, "Returns the pay of a shift.", EdgeTest::payOfLeastAndMost);
        of(11, AS_TOLD, EdgeTest::payOfNoShift);
        of(12, "Returns the charge of a shift.", EdgeTest::chargeOfLeastAndMost);
        of(12, AS_TOLD, EdgeTest::chargeOfNoShift);
        of(13, "Returns the pay of all shifts of a worker in a week.", EdgeTest::payNoneAndFull);
        of(13, AS_TOLD, EdgeTest::payOfNone);
        of(14, "Returns the same, found by going through the hours of the week one by one",
                EdgeTest::payByHoursNoneAndFull);
        of(14, AS_TOLD, EdgeTest::payByHoursOfNone);
    }

    private static void runningWeeks() {
        of(15, "Returns what is paid to all workers by that, together.", EdgeTest::runNoneAndFull);
        of(15, AS_TOLD, EdgeTest::runNoWeek);
        of(16, "Returns what was paid to a worker for a week so far.", EdgeTest::paidSoFar);
        of(16, AS_TOLD, EdgeTest::paidOfNone);
        of(17, "Returns what was billed to a site for a week so far.", EdgeTest::billedSoFar);
        of(17, AS_TOLD, EdgeTest::billedOfNone);
        of(18, "Returns what running a week would pay to a worker now.", EdgeTest::owingNow);
        of(18, AS_TOLD, EdgeTest::owingOfNone);
        of(19, "Returns what running a week would bill to a site now.", EdgeTest::toBillNow);
        of(19, AS_TOLD, EdgeTest::toBillOfNone);
    }

    private static void holidays() {
        of(20, "- `minutes`: 1 to 10000", EdgeTest::minutesRange);
        of(20, "Returns how many minutes are left.", EdgeTest::minutesLeft);
        of(20, AS_TOLD, EdgeTest::takeHolidayOfNoWorker);
        of(20, "Throws `IllegalArgumentException` if minutes is out of range", EdgeTest::takeHolidayOutOfRange);
        of(20, "Throws `IllegalStateException` if there are fewer left", EdgeTest::fewerLeft);
        of(21, "Returns how many minutes of holiday a worker has left.", EdgeTest::holidayNoneAndMost);
        of(21, AS_TOLD, EdgeTest::holidayOfNoWorker);
    }

    private static AssignmentHouse fresh() {
        return new AssignmentHouse();
    }

    /** Worker 0 at site 0 with one shift on day 0. */
    private static AssignmentHouse with(int hours) {
        AssignmentHouse x = fresh();
        x.shift(0, 0, 0, hours);
        return x;
    }

    /** Worker 5 at site 3 with 24 hours on each day of week 19, at the most that they can cost. */
    private static AssignmentHouse fullWeek() {
        AssignmentHouse x = fresh();
        x.setRates(3, 10000, 10000);
        x.setMargins(3, 100, 0, 1000);
        for (int day = 133; day < 140; day++) {
            x.shift(5, 3, day, 16);
            x.shift(5, 3, day, 8);
        }
        return x;
    }

    /** Worker 0 at site 0 on the first and last day of week 1, and on the days before and after it. */
    private static AssignmentHouse besideWeekOne() {
        AssignmentHouse x = fresh();
        x.shift(0, 0, 6, 1);
        x.shift(0, 0, 7, 4);
        x.shift(0, 0, 13, 5);
        x.shift(0, 0, 14, 7);
        return x;
    }

    /** All 80 shifts at site 0 in week 0: 976 hours, the most a site can have in a week. */
    private static AssignmentHouse fullSite() {
        AssignmentHouse x = fresh();
        for (int cell = 0; cell < 42; cell++) {
            x.shift(cell % 6, 0, cell / 6, 16);
        }
        for (int cell = 0; cell < 38; cell++) {
            x.shift(cell % 6, 0, cell / 6, 8);
        }
        return x;
    }

    // Promise 1

    private static void beginsWithoutShifts() {
        AssignmentHouse x = fresh();
        CHECK.same("shifts", x.shifts(), 0);
        CHECK.noSuch("correct", () -> x.correct(0, 0));
        CHECK.noSuch("overtime", () -> x.overtime(0));
        CHECK.noSuch("payOf", () -> x.payOf(0));
        CHECK.noSuch("chargeOf", () -> x.chargeOf(0));
        CHECK.same("holiday", x.holiday(0), 0);
        for (int week = 0; week < 20; week++) {
            CHECK.same("hours", x.hours(week % 6, week), 0);
            CHECK.no("hasEqual", x.hasEqual(week % 6, week % 4, week));
            CHECK.same("pay", x.pay(week % 6, week), 0);
            CHECK.same("payByHours", x.payByHours(week % 6, week), 0);
            CHECK.same("owing", x.owing(week % 6, week), 0);
            CHECK.same("toBill", x.toBill(week % 4, week), 0);
            CHECK.same("run", x.run(week), 0);
            CHECK.same("paid", x.paid(week % 6, week), 0);
            CHECK.same("billed", x.billed(week % 4, week), 0);
        }
        CHECK.same("the first shift's number", x.shift(0, 0, 0, 1), 0);
        CHECK.same("another object", fresh().shifts(), 0);
    }

    // Promises 2 to 4

    private static void rateRange() {
        sentences.range("rate", 1, 10000, rate -> fresh().setRates(0, rate, 10000));
        AssignmentHouse x = with(1);
        x.setRates(0, 1, 10000);
        CHECK.same("payOf at the least", x.payOf(0), 1);
        x.setRates(0, 10000, 10000);
        CHECK.same("payOf at the most", x.payOf(0), 10000);
        CHECK.badArgument("rate 0 with equal 0", () -> x.setRates(0, 0, 0));
        CHECK.badArgument("rate 10001 with equal 10001", () -> x.setRates(0, 10001, 10001));
        CHECK.same("payOf after them", x.payOf(0), 10000);
    }

    private static void equalRange() {
        for (int rate : new int[] {1, 500, 10000}) {
            sentences.range("with rate " + rate + ", equal", rate, 10000, equal -> fresh().setRates(0, rate, equal));
        }
        AssignmentHouse x = with(1);
        x.shift(0, 0, 7, 1);
        x.setEqual(1, 0);
        x.setRates(0, 500, 500);
        CHECK.same("payOf at the least", x.payOf(1), 500);
        x.setRates(0, 500, 10000);
        CHECK.same("payOf at the most", x.payOf(1), 10000);
        CHECK.same("payOf at the rate", x.payOf(0), 500);
    }

    private static void setRatesOfNoSite() {
        sentences.numbersBelow("setRates of site", 4, site -> fresh().setRates(site, 5, 6));
        for (int site = 0; site < 4; site++) {
            AssignmentHouse x = fresh();
            x.setRates(site, 5, 6);
            for (int other = 0; other < 4; other++) {
                int number = x.shift(0, other, 7 * other, 1);
                CHECK.same("payOf at " + other, x.payOf(number), other == site ? 5 : 1000);
            }
        }
    }

    private static void setRatesOutOfRange() {
        AssignmentHouse x = with(1);
        x.shift(0, 0, 7, 1);
        x.setEqual(1, 0);
        x.setRates(0, 500, 600);
        CHECK.badArgument("rate alone", () -> x.setRates(0, 0, 700));
        CHECK.badArgument("equal below rate", () -> x.setRates(0, 700, 699));
        CHECK.badArgument("equal above the most", () -> x.setRates(0, 400, 10001));
        CHECK.badArgument("both", () -> x.setRates(0, -1, -2));
        CHECK.same("the rate is as before", x.payOf(0), 500);
        CHECK.same("the equal rate is as before", x.payOf(1), 600);
    }

    private static void marginRange() {
        sentences.range("margin", 0, 100, margin -> fresh().setMargins(0, margin, 0, 1));
        AssignmentHouse x = with(1);
        x.setMargins(0, 0, 0, 1000);
        CHECK.same("chargeOf at the least", x.chargeOf(0), 1000);
        x.setMargins(0, 100, 0, 1000);
        CHECK.same("chargeOf at the most", x.chargeOf(0), 2000);
        CHECK.badArgument("margin -1 with low -1", () -> x.setMargins(0, -1, -1, 1));
        CHECK.badArgument("margin 101 with low 101", () -> x.setMargins(0, 101, 101, 1));
        CHECK.same("chargeOf after them", x.chargeOf(0), 2000);
    }

    private static void lowRange() {
        for (int margin : new int[] {0, 50, 100}) {
            sentences.range("with margin " + margin + ", low", 0, margin, low -> fresh().setMargins(0, margin, low, 1));
        }
        AssignmentHouse x = with(1);
        x.setMargins(0, 50, 0, 1);
        CHECK.same("chargeOf at the least", x.chargeOf(0), 1000);
        x.setMargins(0, 50, 50, 1);
        CHECK.same("chargeOf at the margin", x.chargeOf(0), 1500);
        x.setMargins(0, 100, 100, 1);
        CHECK.same("chargeOf at the most", x.chargeOf(0), 2000);
    }

    private static void volumeRange() {
        sentences.range("volume", 1, 1000, volume -> fresh().setMargins(0, 1, 0, volume));
        AssignmentHouse x = fullSite();
        x.setMargins(0, 100, 0, 1);
        CHECK.same("by the low margin from 1 hour on", x.chargeOf(41), x.payOf(41));
        x.setMargins(0, 100, 0, 1000);
        CHECK.same("976 hours do not reach 1000", x.chargeOf(41), 2 * x.payOf(41));
        x.setMargins(0, 100, 0, 977);
        CHECK.same("976 hours do not reach 977", x.chargeOf(41), 2 * x.payOf(41));
        x.setMargins(0, 100, 0, 976);
        CHECK.same("976 hours reach 976", x.chargeOf(41), x.payOf(41));
        AssignmentHouse one = with(1);
        one.setMargins(0, 100, 0, 1);
        CHECK.same("1 hour reaches 1", one.chargeOf(0), 1000);
    }

    private static void setMarginsOfNoSite() {
        sentences.numbersBelow("setMargins of site", 4, site -> fresh().setMargins(site, 5, 4, 9));
        for (int site = 0; site < 4; site++) {
            AssignmentHouse x = fresh();
            x.setMargins(site, 5, 4, 9);
            for (int other = 0; other < 4; other++) {
                int number = x.shift(other, other, 0, 1);
                CHECK.same("chargeOf at " + other, x.chargeOf(number), other == site ? 1050 : 1200);
                x.shift(other, other, 1, 8);
                CHECK.same("at 9 hours at " + other, x.chargeOf(number), other == site ? 1040 : 1200);
            }
        }
    }

    private static void setMarginsOutOfRange() {
        AssignmentHouse x = with(4);
        x.shift(0, 0, 7, 6);
        x.setMargins(0, 30, 7, 5);
        CHECK.badArgument("margin alone", () -> x.setMargins(0, 101, 8, 3));
        CHECK.badArgument("low below 0", () -> x.setMargins(0, 40, -1, 3));
        CHECK.badArgument("low above margin", () -> x.setMargins(0, 40, 41, 3));
        CHECK.badArgument("volume below 1", () -> x.setMargins(0, 40, 8, 0));
        CHECK.badArgument("volume above 1000", () -> x.setMargins(0, 40, 8, 1001));
        CHECK.badArgument("all", () -> x.setMargins(0, -1, -2, -3));
        CHECK.same("margin and volume are as before", x.chargeOf(0), 5200);
        CHECK.same("the low margin is as before", x.chargeOf(1), 6420);
    }

    private static void spanRange() {
        sentences.range("span", 1, 12, span -> fresh().setEqual(span, 0));
        AssignmentHouse x = fresh();
        for (int week = 0; week < 13; week++) {
            x.shift(0, 0, week * 7, 1);
        }
        x.setEqual(1, 0);
        CHECK.no("0 weeks of the least", x.hasEqual(0, 0, 0));
        CHECK.yes("1 week of the least", x.hasEqual(0, 0, 1));
        x.setEqual(12, 0);
        CHECK.no("11 weeks of the most", x.hasEqual(0, 0, 11));
        CHECK.yes("12 weeks of the most", x.hasEqual(0, 0, 12));
    }

    private static void gapRange() {
        sentences.range("gap", 0, 6, gap -> fresh().setEqual(1, gap));
        AssignmentHouse x = with(1);
        x.setEqual(1, 0);
        CHECK.yes("no week between, the least", x.hasEqual(0, 0, 1));
        CHECK.no("1 week between, the least", x.hasEqual(0, 0, 2));
        x.setEqual(1, 6);
        CHECK.yes("6 weeks between, the most", x.hasEqual(0, 0, 7));
        CHECK.no("7 weeks between, the most", x.hasEqual(0, 0, 8));
    }

    private static void setEqualOutOfRange() {
        AssignmentHouse x = with(1);
        x.shift(0, 0, 14, 1);
        x.setEqual(2, 1);
        CHECK.badArgument("span below 1", () -> x.setEqual(0, 3));
        CHECK.badArgument("span above 12", () -> x.setEqual(13, 3));
        CHECK.badArgument("gap below 0", () -> x.setEqual(1, -1));
        CHECK.badArgument("gap above 6", () -> x.setEqual(3, 7));
        CHECK.badArgument("both", () -> x.setEqual(Integer.MIN_VALUE, Integer.MAX_VALUE));
        CHECK.yes("two weeks with a gap of one", x.hasEqual(0, 0, 3));
        CHECK.no("the span is as before", x.hasEqual(0, 0, 1));
        CHECK.no("the gap is as before", x.hasEqual(0, 0, 5));
    }

    // Promises 5 to 7

    private static void dayRange() {
        sentences.range("day", 0, 139, day -> fresh().shift(5, 3, day, 16));
        AssignmentHouse x = fresh();
        x.shift(0, 0, 0, 2);
        x.shift(0, 0, 139, 3);
        CHECK.same("day 0 is in week 0", x.hours(0, 0), 2);
        CHECK.same("day 139 is in week 19", x.hours(0, 19), 3);
    }

    private static void hoursRange() {
        sentences.range("hours", 1, 16, hours -> fresh().shift(5, 3, 139, hours));
        CHECK.same("1 hour", with(1).hours(0, 0), 1);
        CHECK.same("16 hours", with(16).hours(0, 0), 16);
    }

    private static void numberOfAShift() {
        AssignmentHouse x = fresh();
        CHECK.same("the first", x.shift(3, 2, 100, 16), 0);
        CHECK.badState("refused", () -> x.shift(3, 2, 100, 9));
        CHECK.badArgument("refused", () -> x.shift(3, 2, 140, 1));
        CHECK.noSuch("refused", () -> x.shift(6, 2, 100, 1));
        CHECK.same("the second, after three refused", x.shift(3, 2, 100, 8), 1);
        x.correct(1, 0);
        CHECK.same("the third, after one of 0 hours", x.shift(3, 2, 100, 8), 2);
        for (int number = 3; number < 80; number++) {
            CHECK.same("the next", x.shift(0, 0, number, 1), number);
        }
    }

    private static void shiftOfNoWorkerOrSite() {
        sentences.numbersBelow("worker", 6, worker -> fresh().shift(worker, 0, 0, 1));
        sentences.numbersBelow("site", 4, site -> fresh().shift(0, site, 0, 1));
        CHECK.noSuch("worker with day and hours out of range", () -> fresh().shift(-1, 0, -1, 0));
        CHECK.noSuch("site with day and hours out of range", () -> fresh().shift(0, 4, 140, 17));
        CHECK.noSuch("worker when there are 80", () -> fullSite().shift(6, 0, 0, 16));
        CHECK.noSuch("site when there are 80", () -> fullSite().shift(0, -1, 0, 16));
    }

    private static void shiftOutOfRange() {
        CHECK.badArgument("day alone", () -> fresh().shift(0, 0, 140, 1));
        CHECK.badArgument("hours alone", () -> fresh().shift(0, 0, 0, 17));
        CHECK.badArgument("both", () -> fresh().shift(0, 0, -1, 0));
        CHECK.badArgument("hours when the day is full", () -> with(16).shift(0, 0, 0, 17));
        CHECK.badArgument("the most hours when the day is full", () -> with(16).shift(0, 0, 0, Integer.MAX_VALUE));
        CHECK.badArgument("day when there are 80", () -> fullSite().shift(0, 0, 140, 1));
        CHECK.badArgument("hours when there are 80", () -> fullSite().shift(0, 0, 0, 0));
    }

    private static void shiftRefused() {
        AssignmentHouse x = fresh();
        for (int number = 0; number < 79; number++) {
            x.shift(number % 6, 0, number, 1);
        }
        CHECK.fine("the 80th", () -> x.shift(0, 0, 139, 1));
        CHECK.badState("the 81st", () -> x.shift(0, 0, 138, 1));
        for (int first = 8; first <= 16; first++) {
            AssignmentHouse day = with(first);
            day.shift(0, 1, 0, 23 - first);
            CHECK.badState("25 hours by 2", () -> day.shift(0, 2, 0, 2));
            CHECK.badState("39 hours by 16", () -> day.shift(0, 2, 0, 16));
            CHECK.fine("24 hours", () -> day.shift(0, 2, 0, 1));
            CHECK.badState("25 hours by 1", () -> day.shift(0, 3, 0, 1));
            CHECK.fine("another day", () -> day.shift(0, 3, 1, 16));
            CHECK.fine("another worker", () -> day.shift(1, 3, 0, 16));
        }
        AssignmentHouse freed = with(16);
        freed.shift(0, 0, 0, 8);
        freed.correct(0, 0);
        CHECK.fine("hours put right are free again", () -> freed.shift(0, 0, 0, 16));
        CHECK.badState("and taken again", () -> freed.shift(0, 0, 0, 1));
    }

    private static void correctedRange() {
        sentences.range("hours", 0, 16, hours -> with(5).correct(0, hours));
        AssignmentHouse x = with(5);
        x.correct(0, 16);
        CHECK.same("the most", x.hours(0, 0), 16);
        x.correct(0, 0);
        CHECK.same("the least", x.hours(0, 0), 0);
        x.correct(0, 1);
        CHECK.same("one", x.hours(0, 0), 1);
    }

    private static void hoursBefore() {
        AssignmentHouse x = with(1);
        CHECK.same("from the least to the most", x.correct(0, 16), 1);
        CHECK.same("from the most to 0", x.correct(0, 0), 16);
        CHECK.same("0 again", x.correct(0, 0), 0);
        CHECK.badArgument("refused", () -> x.correct(0, 17));
        CHECK.same("from 0, after one refused", x.correct(0, 3), 0);
    }

    private static void correctNoShift() {
        CHECK.noSuch("without shifts", () -> fresh().correct(0, 1));
        sentences.numbersBelow("shift of one", 1, shift -> with(5).correct(shift, 4));
        sentences.numbersBelow("shift of eighty", 80, shift -> fullSite().correct(shift, 8));
        CHECK.noSuch("with hours out of range", () -> with(5).correct(1, 17));
        CHECK.noSuch("with hours out of range", () -> with(5).correct(-1, -1));
    }

    private static void correctOutOfRange() {
        AssignmentHouse x = with(16);
        x.shift(0, 0, 0, 8);
        x.takeHoliday(0, 24 * 7);
        CHECK.badArgument("above, when the day is full", () -> x.correct(0, 17));
        CHECK.badArgument("below, when all holiday is taken", () -> x.correct(0, -1));
        CHECK.badArgument("the most", () -> x.correct(0, Integer.MAX_VALUE));
        CHECK.badArgument("the least", () -> x.correct(0, Integer.MIN_VALUE));
        CHECK.same("the hours are as before", x.hours(0, 0), 24);
    }

    private static void correctRefused() {
        AssignmentHouse day = with(10);
        day.shift(0, 1, 0, 8);
        day.shift(1, 1, 0, 16);
        day.shift(0, 1, 1, 16);
        CHECK.badState("25 hours", () -> day.correct(1, 15));
        CHECK.fine("24 hours", () -> day.correct(1, 14));
        CHECK.badState("25 hours by the other", () -> day.correct(0, 11));
        CHECK.fine("the same 24 hours", () -> day.correct(0, 10));
        CHECK.fine("fewer", () -> day.correct(0, 9));
        for (int taken = 1; taken <= 70; taken++) {
            AssignmentHouse x = with(10);
            x.takeHoliday(0, taken);
            int needed = (taken + 6) / 7;
            CHECK.badState(taken + " taken, one hour too few", () -> x.correct(0, needed - 1));
            CHECK.same(taken + " taken, the hours are as before", x.hours(0, 0), 10);
            CHECK.fine(taken + " taken, hours enough", () -> x.correct(0, needed));
            CHECK.same(taken + " taken, what is left", x.holiday(0), needed * 7 - taken);
        }
        AssignmentHouse two = with(5);
        two.shift(0, 3, 139, 5);
        two.shift(1, 0, 0, 5);
        two.takeHoliday(0, 35);
        CHECK.fine("what another shift earns is enough", () -> two.correct(0, 0));
        CHECK.badState("but that one is needed", () -> two.correct(1, 4));
        CHECK.fine("another worker's is not", () -> two.correct(2, 0));
    }

    private static void shiftsOfZeroHours() {
        AssignmentHouse x = with(1);
        x.shift(0, 0, 1, 1);
        x.correct(0, 0);
        CHECK.same("one of two", x.shifts(), 2);
        x.correct(1, 0);
        CHECK.same("both", x.shifts(), 2);
        AssignmentHouse full = fullSite();
        for (int shift = 0; shift < 80; shift++) {
            full.correct(shift, 0);
        }
        CHECK.same("all eighty", full.shifts(), 80);
        CHECK.same("hours of them", full.hours(0, 0), 0);
    }

    // Promises 8 to 14

    private static void hoursOfAWeek() {
        CHECK.same("without shifts", fresh().hours(0, 0), 0);
        AssignmentHouse x = fullWeek();
        CHECK.same("a full week", x.hours(5, 19), 168);
        CHECK.same("the week ahead", x.hours(5, 18), 0);
        CHECK.same("another worker", x.hours(4, 19), 0);
        x.correct(0, 0);
        CHECK.same("without the first shift", x.hours(5, 19), 152);
    }

    private static void hoursOfNone() {
        sentences.numbersBelow("worker", 6, worker -> fullWeek().hours(worker, 19));
        sentences.numbersBelow("week", 20, week -> fullWeek().hours(5, week));
    }

    private static void overtimeNoneAndAll() {
        AssignmentHouse x = fullWeek();
        CHECK.same("16 on the first day", x.overtime(0), 8);
        CHECK.same("8 after 16", x.overtime(1), 8);
        CHECK.same("16 on the fifth day", x.overtime(8), 8);
        CHECK.same("16 on the sixth day", x.overtime(10), 16);
        CHECK.same("8 on the last day", x.overtime(13), 8);
        x.correct(13, 0);
        CHECK.same("0 hours on the last day", x.overtime(13), 0);
        CHECK.same("1 hour alone", with(1).overtime(0), 0);
    }

    private static void overtimeOfNoShift() {
        CHECK.noSuch("without shifts", () -> fresh().overtime(0));
        sentences.numbersBelow("shift of one", 1, shift -> with(1).overtime(shift));
        sentences.numbersBelow("shift of eighty", 80, shift -> fullSite().overtime(shift));
    }

    private static void hasEqualOfNone() {
        sentences.numbersBelow("worker", 6, worker -> fullWeek().hasEqual(worker, 3, 19));
        sentences.numbersBelow("site", 4, site -> fullWeek().hasEqual(5, site, 19));
        sentences.numbersBelow("week", 20, week -> fullWeek().hasEqual(5, 3, week));
    }

    private static void payOfLeastAndMost() {
        AssignmentHouse least = with(1);
        least.setRates(0, 1, 1);
        CHECK.same("1 hour at rate 1", least.payOf(0), 1);
        least.correct(0, 0);
        CHECK.same("0 hours", least.payOf(0), 0);
        CHECK.same("16 hours of overtime at rate 10000", fullWeek().payOf(12), 240000);
    }

    private static void payOfNoShift() {
        CHECK.noSuch("without shifts", () -> fresh().payOf(0));
        sentences.numbersBelow("shift of one", 1, shift -> with(1).payOf(shift));
        sentences.numbersBelow("shift of eighty", 80, shift -> fullSite().payOf(shift));
    }

    private static void chargeOfLeastAndMost() {
        AssignmentHouse least = with(1);
        least.setRates(0, 1, 1);
        CHECK.same("1.2, down", least.chargeOf(0), 1);
        least.correct(0, 0);
        CHECK.same("0 hours", least.chargeOf(0), 0);
        CHECK.same("16 hours of overtime at rate 10000, margin 100", fullWeek().chargeOf(12), 480000);
    }

    private static void chargeOfNoShift() {
        CHECK.noSuch("without shifts", () -> fresh().chargeOf(0));
        sentences.numbersBelow("shift of one", 1, shift -> with(1).chargeOf(shift));
        sentences.numbersBelow("shift of eighty", 80, shift -> fullSite().chargeOf(shift));
    }

    private static void payNoneAndFull() {
        CHECK.same("without shifts", fresh().pay(0, 0), 0);
        AssignmentHouse x = fullWeek();
        CHECK.same("40 plain, 128 over", x.pay(5, 19), 2320000);
        CHECK.same("another week", x.pay(5, 18), 0);
        CHECK.same("another worker", x.pay(4, 19), 0);
        CHECK.same("the days beside the week are of others", besideWeekOne().pay(0, 1), 9000);
    }

    private static void payOfNone() {
        sentences.numbersBelow("worker", 6, worker -> fullWeek().pay(worker, 19));
        sentences.numbersBelow("week", 20, week -> fullWeek().pay(5, week));
    }

    private static void payByHoursNoneAndFull() {
        CHECK.same("without shifts", fresh().payByHours(0, 0), 0);
        AssignmentHouse x = fullWeek();
        CHECK.same("40 plain, 128 over", x.payByHours(5, 19), 2320000);
        CHECK.same("another week", x.payByHours(5, 18), 0);
        CHECK.same("another worker", x.payByHours(4, 19), 0);
        AssignmentHouse odd = fresh();
        odd.setRates(0, 1, 1);
        for (int hour = 0; hour < 16; hour++) {
            odd.shift(0, 0, 6, 1);
        }
        CHECK.same("8 times 1, 8 times 1.5 down", odd.payByHours(0, 0), 16);
        odd.shift(0, 0, 6, 2);
        CHECK.same("and 3 halves for each of 2 hours", odd.payByHours(0, 0), 19);
        AssignmentHouse beside = besideWeekOne();
        CHECK.same("the days beside the week are of others", beside.payByHours(0, 1), 9000);
    }

    private static void payByHoursOfNone() {
        sentences.numbersBelow("worker", 6, worker -> fullWeek().payByHours(worker, 19));
        sentences.numbersBelow("week", 20, week -> fullWeek().payByHours(5, week));
    }

    // Promises 15 to 19

    private static void runNoneAndFull() {
        CHECK.same("without shifts", fresh().run(0), 0);
        AssignmentHouse x = fullWeek();
        CHECK.same("the week ahead", x.run(18), 0);
        x.shift(0, 0, 139, 1);
        CHECK.same("the first and the last worker", x.run(19), 2321000);
        CHECK.same("again", x.run(19), 0);
        for (int shift = 0; shift < 15; shift++) {
            x.correct(shift, 0);
        }
        CHECK.same("all back", x.run(19), -2321000);
        AssignmentHouse most = fullSite();
        most.setRates(0, 10000, 10000);
        int halves = 6 * 40 * 2 + (976 - 6 * 40) * 3;
        CHECK.same("the most", most.run(0), halves * 5000);
    }

    private static void runNoWeek() {
        sentences.numbersBelow("week", 20, week -> fullWeek().run(week));
    }

    private static void paidSoFar() {
        AssignmentHouse x = fullWeek();
        CHECK.same("before a run", x.paid(5, 19), 0);
        x.run(18);
        CHECK.same("after another week's run", x.paid(5, 19), 0);
        x.run(19);
        CHECK.same("after a run", x.paid(5, 19), 2320000);
        CHECK.same("of the other week", x.paid(5, 18), 0);
        x.correct(13, 0);
        CHECK.same("before the next run", x.paid(5, 19), 2320000);
        x.run(19);
        CHECK.same("after the next run", x.paid(5, 19), 2200000);
    }

    private static void paidOfNone() {
        sentences.numbersBelow("worker", 6, worker -> fullWeek().paid(worker, 19));
        sentences.numbersBelow("week", 20, week -> fullWeek().paid(4, week));
    }

    private static void billedSoFar() {
        AssignmentHouse x = fullWeek();
        CHECK.same("before a run", x.billed(3, 19), 0);
        x.run(18);
        CHECK.same("after another week's run", x.billed(3, 19), 0);
        x.run(19);
        CHECK.same("after a run", x.billed(3, 19), 4640000);
        CHECK.same("of the other week", x.billed(3, 18), 0);
        x.correct(13, 0);
        CHECK.same("before the next run", x.billed(3, 19), 4640000);
        x.run(19);
        CHECK.same("after the next run", x.billed(3, 19), 4400000);
        AssignmentHouse most = fullSite();
        most.setRates(0, 10000, 10000);
        most.setMargins(0, 100, 100, 1000);
        CHECK.same("the most", 2 * most.run(0), most.billed(0, 0));
    }

    private static void billedOfNone() {
        sentences.numbersBelow("site", 4, site -> fullWeek().billed(site, 19));
        sentences.numbersBelow("week", 20, week -> fullWeek().billed(2, week));
    }

    private static void owingNow() {
        CHECK.same("without shifts", fresh().owing(0, 0), 0);
        AssignmentHouse x = fullWeek();
        CHECK.same("before a run", x.owing(5, 19), 2320000);
        CHECK.same("asked again", x.owing(5, 19), 2320000);
        CHECK.same("asking pays nothing", x.paid(5, 19), 0);
        x.run(19);
        CHECK.same("after a run", x.owing(5, 19), 0);
        x.correct(13, 0);
        CHECK.same("below 0", x.owing(5, 19), -120000);
    }

    private static void owingOfNone() {
        sentences.numbersBelow("worker", 6, worker -> fullWeek().owing(worker, 19));
        sentences.numbersBelow("week", 20, week -> fullWeek().owing(4, week));
    }

    private static void toBillNow() {
        CHECK.same("without shifts", fresh().toBill(0, 0), 0);
        AssignmentHouse x = fullWeek();
        CHECK.same("before a run", x.toBill(3, 19), 4640000);
        CHECK.same("asked again", x.toBill(3, 19), 4640000);
        CHECK.same("asking bills nothing", x.billed(3, 19), 0);
        x.run(19);
        CHECK.same("after a run", x.toBill(3, 19), 0);
        x.correct(13, 0);
        CHECK.same("below 0", x.toBill(3, 19), -240000);
    }

    private static void toBillOfNone() {
        sentences.numbersBelow("site", 4, site -> fullWeek().toBill(site, 19));
        sentences.numbersBelow("week", 20, week -> fullWeek().toBill(2, week));
    }

    // Promises 20 and 21

    /** No worker can earn 10000 minutes, so that they are in range, but never left. */
    private static void minutesRange() {
        CHECK.fine("minutes 1", () -> with(1).takeHoliday(0, 1));
        CHECK.badState("minutes 10000", () -> with(16).takeHoliday(0, 10000));
        CHECK.badArgument("minutes 10001", () -> with(16).takeHoliday(0, 10001));
        CHECK.badArgument("minutes 0", () -> with(16).takeHoliday(0, 0));
        CHECK.badArgument("minutes -1", () -> with(16).takeHoliday(0, -1));
        CHECK.badArgument("the most", () -> with(16).takeHoliday(0, Integer.MAX_VALUE));
        CHECK.badArgument("the least", () -> with(16).takeHoliday(0, Integer.MIN_VALUE));
    }

    private static void minutesLeft() {
        AssignmentHouse x = with(2);
        CHECK.same("the least", x.takeHoliday(0, 1), 13);
        CHECK.same("all but one", x.takeHoliday(0, 12), 1);
        CHECK.same("the last", x.takeHoliday(0, 1), 0);
    }

    private static void takeHolidayOfNoWorker() {
        AssignmentHouse x = fresh();
        for (int worker = 0; worker < 6; worker++) {
            x.shift(worker, 0, 0, 1);
        }
        sentences.numbersBelow("worker", 6, worker -> x.takeHoliday(worker, 1));
        CHECK.noSuch("with minutes out of range", () -> x.takeHoliday(6, 0));
        CHECK.noSuch("with minutes out of range", () -> x.takeHoliday(-1, 10001));
    }

    private static void takeHolidayOutOfRange() {
        CHECK.badArgument("0 when none are left", () -> fresh().takeHoliday(0, 0));
        CHECK.badArgument("10001 when fewer are left", () -> fresh().takeHoliday(0, 10001));
        AssignmentHouse x = with(16);
        CHECK.badArgument("-7", () -> x.takeHoliday(0, -7));
        CHECK.same("holiday after it", x.holiday(0), 112);
    }

    private static void fewerLeft() {
        CHECK.badState("1 of 0", () -> fresh().takeHoliday(0, 1));
        AssignmentHouse x = with(1);
        CHECK.badState("8 of 7", () -> x.takeHoliday(0, 8));
        CHECK.fine("7 of 7", () -> x.takeHoliday(0, 7));
        CHECK.badState("1 of 0 then", () -> x.takeHoliday(0, 1));
        x.correct(0, 2);
        CHECK.badState("8 of 7 then", () -> x.takeHoliday(0, 8));
        CHECK.badState("10000 of 7 then", () -> x.takeHoliday(0, 10000));
        CHECK.fine("7 of 7 then", () -> x.takeHoliday(0, 7));
        x.shift(1, 0, 0, 16);
        CHECK.badState("another worker's do not count", () -> x.takeHoliday(0, 1));
    }

    private static void holidayNoneAndMost() {
        AssignmentHouse x = fresh();
        for (int number = 0; number < 80; number++) {
            x.shift(0, number % 4, 139 - number, 16);
        }
        CHECK.same("the most", x.holiday(0), 8960);
        CHECK.same("of another worker", x.holiday(5), 0);
        CHECK.same("asked again", x.holiday(0), 8960);
        x.takeHoliday(0, 8960);
        CHECK.same("all taken", x.holiday(0), 0);
        CHECK.badState("one more", () -> x.takeHoliday(0, 1));
    }

    private static void holidayOfNoWorker() {
        sentences.numbersBelow("worker", 6, worker -> fullWeek().holiday(worker));
    }
}
