import java.io.IOException;

/** Each sentence under 'What it is' and 'Terms' that names a boundary case, by a test of its own. */
public final class TermsTest {
    private static final Check CHECK = new Check("TermsTest");
    private static final String TERMS = "Terms";
    private static Sentences sentences;

    private TermsTest() {
    }

    public static void main(String[] args) throws IOException {
        sentences = new Sentences(CHECK, args);
        numbersAndFirstValues();
        hoursAndEqualPay();
        payRunsAndHolidays();
        CHECK.end();
    }

    private static void numbersAndFirstValues() {
        sentences.of("What it is", "An object is used for at most 512 calls after it has been made",
                TermsTest::allOf512Calls);
        sentences.of(TERMS, "There are the workers 0 to 5", TermsTest::workers);
        sentences.of(TERMS, "the sites 0 to 3", TermsTest::sites);
        sentences.of(TERMS, "the days 0 to 139", TermsTest::days);
        sentences.of(TERMS, "the week of a day is day / 7, rounded down", TermsTest::weekOfADay);
        sentences.of(TERMS, "no such worker, site, shift or week (0 to 19)", TermsTest::weeksAndShifts);
        sentences.of(TERMS, "A site has a rate and an equal rate, in cents by the hour, 1000 and 1200 at first",
                TermsTest::firstRates);
        sentences.of(TERMS, "a margin and a low margin, in percent, 20 and 10 at first", TermsTest::firstMargins);
        sentences.of(TERMS, "and a volume, 100 hours at first", TermsTest::firstVolume);
        sentences.of(TERMS, "Shifts are numbered from 0, at most 80", TermsTest::shiftNumbers);
        sentences.of(TERMS, "on a day, with 0 to 16 hours", TermsTest::hoursOfAShift);
    }

    private static void hoursAndEqualPay() {
        sentences.of(TERMS, "gone through one by one, by days, those of a day by the numbers of shifts",
                TermsTest::orderOfHours);
        sentences.of(TERMS, "An hour is overtime if 8 hours of the worker have come before it on this day",
                TermsTest::overtimeByDay);
        sentences.of(TERMS, "or if 40 hours that were not overtime have come before it in this week",
                TermsTest::overtimeByWeek);
        sentences.of(TERMS, "; at whatever sites.", TermsTest::overtimeCrossesSites);
        sentences.of(TERMS, "let a week be worked if the worker has a shift there in it with at least 1 hour",
                TermsTest::weekWorked);
        sentences.of(TERMS, "From a week one goes back week by week, ahead of it, counting those that are worked",
                TermsTest::weeksAhead);
        sentences.of(TERMS, "until more weeks one after the other than the gap", TermsTest::gapOfWeeks);
        sentences.of(TERMS, "the gap (2 at first)", TermsTest::firstGap);
        sentences.of(TERMS, "are not worked, or there are no more", TermsTest::noMoreWeeks);
        sentences.of(TERMS, "If there are at least as many as the span", TermsTest::spanOfWeeks);
        sentences.of(TERMS, "the span (4 at first)", TermsTest::firstSpan);
        sentences.of(TERMS, "the worker has the equal rate of the site in that week, otherwise the rate",
                TermsTest::rateInAWeek);
    }

    private static void payRunsAndHolidays() {
        sentences.of(TERMS, "* the rate that the worker has there in that week, rounded down",
                TermsTest::payRoundedDown);
        sentences.of(TERMS, "Its charge is its pay * (100 and the margin) / 100, rounded down",
                TermsTest::chargeRoundedDown);
        sentences.of(TERMS, "if the hours of all shifts at the site in that week are the volume or more",
                TermsTest::volumeOrMore);
        sentences.of(TERMS, "less what was paid for it before (perhaps below 0)", TermsTest::paidBelowZero);
        sentences.of(TERMS, "less what was billed for it before", TermsTest::billedBelowZero);
        sentences.of(TERMS, "A worker earns 7 minutes of holiday by each hour of its shifts",
                TermsTest::holidayByTheHour);
        sentences.of(TERMS, "whenever that is asked; some are taken", TermsTest::holidayWheneverAsked);
    }

    private static AssignmentHouse fresh() {
        return new AssignmentHouse();
    }

    /** A shift of 1 hour for each worker on day 0: shift w is of worker w, at site w % 4. */
    private static AssignmentHouse staffed() {
        AssignmentHouse x = fresh();
        for (int worker = 0; worker < 6; worker++) {
            x.shift(worker, worker % 4, 0, 1);
        }
        return x;
    }

    /** Shifts of worker 0 at site 0, one a day from day 0 on: shift d is on day d. */
    private static AssignmentHouse byDays(int... hours) {
        AssignmentHouse x = fresh();
        for (int day = 0; day < hours.length; day++) {
            x.shift(0, 0, day, hours[day]);
        }
        return x;
    }

    /** Shifts of worker 0 at site 0, of 1 hour, one in each of the weeks. */
    private static AssignmentHouse byWeeks(int... weeks) {
        AssignmentHouse x = fresh();
        for (int week : weeks) {
            x.shift(0, 0, week * 7, 1);
        }
        return x;
    }

    /** The same in the weeks from first to last. */
    private static AssignmentHouse throughWeeks(int first, int last) {
        AssignmentHouse x = fresh();
        for (int week = first; week <= last; week++) {
            x.shift(0, 0, week * 7, 1);
        }
        return x;
    }

    // Numbers and first values

    private static void allOf512Calls() {
        AssignmentHouse x = fresh();
        for (int i = 0; i < 80; i++) {
            CHECK.same("call " + (i + 1), x.shift(i % 6, i % 4, i, 1), i);
        }
        for (int i = 0; i < 431; i++) {
            int before = i < 80 ? 1 : 1 + (i - 80) % 16;
            CHECK.same("call " + (i + 81), x.correct(i % 80, 1 + i % 16), before);
        }
        CHECK.same("call 512: 8 plain, 8 over at the equal rate", x.payOf(79), 24000);
    }

    private static void workers() {
        sentences.numbersBelow("shift of worker", 6, n -> fresh().shift(n, 0, 0, 1));
        sentences.numbersBelow("hours of worker", 6, n -> staffed().hours(n, 0));
        sentences.numbersBelow("hasEqual of worker", 6, n -> staffed().hasEqual(n, 0, 0));
        sentences.numbersBelow("pay of worker", 6, n -> staffed().pay(n, 0));
        sentences.numbersBelow("payByHours of worker", 6, n -> staffed().payByHours(n, 0));
        sentences.numbersBelow("paid to worker", 6, n -> staffed().paid(n, 0));
        sentences.numbersBelow("owing to worker", 6, n -> staffed().owing(n, 0));
        sentences.numbersBelow("takeHoliday of worker", 6, n -> staffed().takeHoliday(n, 1));
        sentences.numbersBelow("holiday of worker", 6, n -> staffed().holiday(n));
    }

    private static void sites() {
        sentences.numbersBelow("setRates of site", 4, n -> fresh().setRates(n, 1, 1));
        sentences.numbersBelow("setMargins of site", 4, n -> fresh().setMargins(n, 0, 0, 1));
        sentences.numbersBelow("shift at site", 4, n -> fresh().shift(0, n, 0, 1));
        sentences.numbersBelow("hasEqual at site", 4, n -> staffed().hasEqual(0, n, 0));
        sentences.numbersBelow("billed to site", 4, n -> staffed().billed(n, 0));
        sentences.numbersBelow("toBill of site", 4, n -> staffed().toBill(n, 0));
    }

    private static void days() {
        sentences.range("shift on day", 0, 139, n -> fresh().shift(0, 0, n, 1));
    }

    private static void weekOfADay() {
        for (int day = 0; day < 140; day++) {
            AssignmentHouse x = fresh();
            x.shift(0, 0, day, 1);
            for (int week = 0; week < 20; week++) {
                int due = week * 7 <= day && day <= week * 7 + 6 ? 1 : 0;
                String where = "day " + day + ", week " + week + ", ";
                CHECK.same(where + "hours", x.hours(0, week), due);
                CHECK.same(where + "pay", x.pay(0, week), 1000 * due);
                CHECK.same(where + "payByHours", x.payByHours(0, week), 1000 * due);
                CHECK.same(where + "owing", x.owing(0, week), 1000 * due);
                CHECK.same(where + "toBill", x.toBill(0, week), 1200 * due);
                CHECK.same(where + "run", x.run(week), 1000 * due);
                CHECK.same(where + "paid", x.paid(0, week), 1000 * due);
                CHECK.same(where + "billed", x.billed(0, week), 1200 * due);
            }
        }
    }

    private static void weeksAndShifts() {
        for (int n = 0; n < 4; n++) {
            int number = n;
            sentences.numbersBelow("hours in week", 20, week -> staffed().hours(number, week));
            sentences.numbersBelow("hasEqual in week", 20, week -> staffed().hasEqual(number, number, week));
            sentences.numbersBelow("pay in week", 20, week -> staffed().pay(number, week));
            sentences.numbersBelow("payByHours in week", 20, week -> staffed().payByHours(number, week));
            sentences.numbersBelow("paid in week", 20, week -> staffed().paid(number, week));
            sentences.numbersBelow("billed in week", 20, week -> staffed().billed(number, week));
            sentences.numbersBelow("owing in week", 20, week -> staffed().owing(number, week));
            sentences.numbersBelow("toBill in week", 20, week -> staffed().toBill(number, week));
        }
        sentences.numbersBelow("run of week", 20, week -> staffed().run(week));
        sentences.numbersBelow("correct of shift", 6, n -> staffed().correct(n, 2));
        sentences.numbersBelow("overtime of shift", 6, n -> staffed().overtime(n));
        sentences.numbersBelow("payOf of shift", 6, n -> staffed().payOf(n));
        sentences.numbersBelow("chargeOf of shift", 6, n -> staffed().chargeOf(n));
    }

    private static void firstRates() {
        for (int site = 0; site < 4; site++) {
            AssignmentHouse x = fresh();
            for (int week = 0; week < 5; week++) {
                x.shift(0, site, week * 7, 1);
            }
            CHECK.same("the first rate of site " + site, x.payOf(3), 1000);
            CHECK.same("the first equal rate of site " + site, x.payOf(4), 1200);
        }
    }

    private static void firstMargins() {
        for (int site = 0; site < 4; site++) {
            AssignmentHouse x = fresh();
            x.shift(0, site, 0, 1);
            CHECK.same("the first margin of site " + site, x.chargeOf(0), 1200);
            for (int day = 0; day < 7; day++) {
                x.shift(1, site, day, 16);
            }
            CHECK.same("the first low margin of site " + site, x.chargeOf(0), 1100);
        }
    }

    private static void firstVolume() {
        for (int site = 0; site < 4; site++) {
            AssignmentHouse x = fresh();
            for (int day = 0; day < 6; day++) {
                x.shift(0, site, day, 16);
            }
            x.shift(1, site, 0, 3);
            CHECK.same("site " + site + " at 99 hours", x.chargeOf(6), 3600);
            x.correct(6, 4);
            CHECK.same("site " + site + " at 100 hours", x.chargeOf(6), 4400);
        }
    }

    private static void shiftNumbers() {
        AssignmentHouse x = fresh();
        for (int number = 0; number < 80; number++) {
            CHECK.badArgument("one of 0 hours has no number", () -> x.shift(0, 0, 0, 0));
            CHECK.same("number", x.shift(number % 6, number % 4, number, 1), number);
        }
        CHECK.badState("the 81st", () -> x.shift(0, 0, 139, 1));
        CHECK.same("how many", x.shifts(), 80);
        x.correct(79, 0);
        CHECK.badState("the 81st beside one of 0 hours", () -> x.shift(0, 0, 139, 1));
        CHECK.same("payOf the first", x.payOf(0), 1000);
        CHECK.same("payOf the last", x.payOf(79), 0);
        CHECK.noSuch("payOf beyond the last", () -> x.payOf(80));
    }

    private static void hoursOfAShift() {
        sentences.range("shift of hours", 1, 16, n -> fresh().shift(0, 0, 0, n));
        sentences.range("correct to hours", 0, 16, n -> staffed().correct(0, n));
        AssignmentHouse x = byDays(16);
        CHECK.same("payOf 16 hours", x.payOf(0), 20000);
        x.correct(0, 0);
        CHECK.same("payOf 0 hours", x.payOf(0), 0);
        CHECK.same("chargeOf 0 hours", x.chargeOf(0), 0);
        CHECK.same("overtime of 0 hours", x.overtime(0), 0);
        CHECK.same("hours of the week", x.hours(0, 0), 0);
        CHECK.same("pay of the week by hours", x.payByHours(0, 0), 0);
    }

    // Hours and equal pay

    private static void orderOfHours() {
        AssignmentHouse x = fresh();
        x.shift(0, 0, 6, 8);
        x.shift(0, 0, 3, 5);
        x.shift(0, 0, 3, 5);
        CHECK.same("the lower number on a day", x.overtime(1), 0);
        CHECK.same("the higher number on a day", x.overtime(2), 2);
        for (int day = 0; day < 3; day++) {
            x.shift(0, 0, day, 8);
        }
        CHECK.same("the last day with 32 plain ahead", x.overtime(0), 0);
        x.shift(0, 0, 4, 3);
        CHECK.same("the lowest number, but on the last day", x.overtime(0), 3);
        CHECK.same("the highest number, but on an earlier day", x.overtime(6), 0);
        x.shift(0, 0, 3, 1);
        CHECK.same("what comes later on a day changes nothing ahead", x.overtime(2), 2);
    }

    private static void overtimeByDay() {
        for (int hours = 1; hours <= 16; hours++) {
            CHECK.same("of " + hours, byDays(hours).overtime(0), Math.max(0, hours - 8));
        }
        for (int first = 1; first <= 16; first++) {
            AssignmentHouse x = byDays(first);
            x.shift(0, 0, 0, 8);
            CHECK.same("of 8 after " + first, x.overtime(1), Math.min(8, first));
        }
        AssignmentHouse x = byDays(8);
        x.shift(0, 0, 1, 8);
        x.shift(1, 0, 0, 8);
        CHECK.same("on another day", x.overtime(1), 0);
        CHECK.same("of another worker", x.overtime(2), 0);
    }

    private static void overtimeByWeek() {
        AssignmentHouse plain = byDays(8, 8, 8, 8, 8, 1, 8);
        CHECK.same("the 40th hour", plain.overtime(4), 0);
        CHECK.same("the 41st hour", plain.overtime(5), 1);
        CHECK.same("the hours after it", plain.overtime(6), 8);
        AssignmentHouse near = byDays(8, 8, 8, 8, 7, 2);
        CHECK.same("one plain hour is left", near.overtime(5), 1);
        near.correct(4, 6);
        CHECK.same("two plain hours are left", near.overtime(5), 0);
        AssignmentHouse over = byDays(16, 16, 16, 7, 8, 3);
        CHECK.same("hours of overtime do not count", over.overtime(4), 0);
        CHECK.same("39 plain are ahead", over.overtime(5), 2);
        AssignmentHouse next = byDays(8, 8, 8, 8, 8, 8, 8, 8);
        CHECK.same("the last day of the week", next.overtime(6), 8);
        CHECK.same("the first day of the next week", next.overtime(7), 0);
        next.shift(1, 0, 6, 8);
        CHECK.same("of another worker", next.overtime(8), 0);
    }

    private static void overtimeCrossesSites() {
        AssignmentHouse day = fresh();
        day.shift(0, 0, 0, 4);
        day.shift(0, 1, 0, 4);
        day.shift(0, 2, 0, 1);
        CHECK.same("the eighth hour of the day", day.overtime(1), 0);
        CHECK.same("the ninth hour of the day", day.overtime(2), 1);
        AssignmentHouse week = fresh();
        for (int i = 0; i < 5; i++) {
            week.shift(0, i % 4, i, 8);
        }
        week.shift(0, 3, 5, 1);
        CHECK.same("the 40th hour of the week", week.overtime(4), 0);
        CHECK.same("the 41st hour of the week", week.overtime(5), 1);
    }

    private static void weekWorked() {
        AssignmentHouse x = byWeeks(0, 1);
        x.setEqual(2, 0);
        CHECK.yes("1 hour", x.hasEqual(0, 0, 2));
        x.correct(1, 0);
        CHECK.no("0 hours", x.hasEqual(0, 0, 2));
        x.shift(1, 0, 7, 8);
        CHECK.no("another worker's hours", x.hasEqual(0, 0, 2));
        x.shift(0, 1, 7, 8);
        CHECK.no("hours at another site", x.hasEqual(0, 0, 2));
        x.shift(0, 0, 14, 8);
        CHECK.no("hours on the day after the week", x.hasEqual(0, 0, 2));
        x.shift(0, 0, 6, 8);
        CHECK.no("hours on the day ahead of the week", x.hasEqual(0, 0, 2));
        x.correct(5, 0);
        x.shift(0, 0, 13, 1);
        CHECK.yes("1 hour beside one of 0 hours", x.hasEqual(0, 0, 2));
        x.shift(0, 0, 13, 1);
        x.correct(0, 0);
        CHECK.no("two shifts in a week count it once", x.hasEqual(0, 0, 2));
    }

    private static void weeksAhead() {
        AssignmentHouse x = throughWeeks(5, 8);
        CHECK.no("three are ahead, the fourth is its own", x.hasEqual(0, 0, 8));
        CHECK.yes("four are ahead", x.hasEqual(0, 0, 9));
        CHECK.no("all come after", x.hasEqual(0, 0, 4));
        x.setEqual(1, 6);
        CHECK.no("its own and later ones", x.hasEqual(0, 0, 5));
        CHECK.yes("the one ahead", x.hasEqual(0, 0, 6));
    }

    private static void gapOfWeeks() {
        for (int gap = 0; gap <= 6; gap++) {
            AssignmentHouse x = throughWeeks(0, 3);
            x.setEqual(4, gap);
            CHECK.yes("as many as the gap " + gap, x.hasEqual(0, 0, 4 + gap));
            CHECK.no("one more than the gap " + gap, x.hasEqual(0, 0, 5 + gap));
            AssignmentHouse between = byWeeks(0, 1 + gap, 2 + 2 * gap);
            between.setEqual(3, gap);
            CHECK.yes("the gap " + gap + " twice", between.hasEqual(0, 0, 3 + 2 * gap));
            between.setEqual(3, Math.max(0, gap - 1));
            CHECK.same("a gap less than " + gap, between.hasEqual(0, 0, 3 + 2 * gap) ? 1 : 0, gap == 0 ? 1 : 0);
        }
        AssignmentHouse x = byWeeks(0, 1, 2, 6, 7);
        x.setEqual(2, 2);
        CHECK.yes("two before three that are not worked", x.hasEqual(0, 0, 8));
        x.setEqual(3, 2);
        CHECK.no("what lies behind the three", x.hasEqual(0, 0, 8));
    }

    private static void firstGap() {
        AssignmentHouse x = throughWeeks(0, 3);
        CHECK.yes("2 weeks", x.hasEqual(0, 0, 6));
        CHECK.no("3 weeks", x.hasEqual(0, 0, 7));
    }

    private static void noMoreWeeks() {
        AssignmentHouse none = fresh();
        none.setEqual(1, 6);
        AssignmentHouse all = throughWeeks(0, 19);
        all.setEqual(1, 6);
        CHECK.no("nothing lies ahead of week 0", all.hasEqual(0, 0, 0));
        CHECK.yes("week 0 lies ahead of week 1", all.hasEqual(0, 0, 1));
        for (int week = 0; week < 20; week++) {
            CHECK.no("no week is worked", none.hasEqual(0, 0, week));
        }
        all.setEqual(12, 6);
        CHECK.no("eleven and no more", all.hasEqual(0, 0, 11));
        CHECK.yes("twelve and no more", all.hasEqual(0, 0, 12));
        CHECK.yes("the last week", all.hasEqual(0, 0, 19));
        AssignmentHouse first = byWeeks(0);
        first.setEqual(1, 6);
        CHECK.yes("week 0 alone", first.hasEqual(0, 0, 7));
        first.setEqual(2, 6);
        CHECK.no("week 0 and no more", first.hasEqual(0, 0, 7));
    }

    private static void spanOfWeeks() {
        for (int span = 1; span <= 12; span++) {
            AssignmentHouse x = throughWeeks(0, 13);
            x.setEqual(span, 0);
            CHECK.no("one less than " + span, x.hasEqual(0, 0, span - 1));
            CHECK.yes("as many as " + span, x.hasEqual(0, 0, span));
            CHECK.yes("one more than " + span, x.hasEqual(0, 0, span + 1));
        }
    }

    private static void firstSpan() {
        AssignmentHouse x = throughWeeks(0, 4);
        CHECK.no("3 weeks", x.hasEqual(0, 0, 3));
        CHECK.yes("4 weeks", x.hasEqual(0, 0, 4));
        CHECK.yes("5 weeks", x.hasEqual(0, 0, 5));
    }

    private static void rateInAWeek() {
        AssignmentHouse x = throughWeeks(0, 4);
        x.setRates(0, 7, 11);
        x.shift(0, 1, 28, 1);
        x.shift(1, 0, 28, 1);
        CHECK.same("payOf at the rate", x.payOf(3), 7);
        CHECK.same("payOf at the equal rate", x.payOf(4), 11);
        CHECK.same("payOf at another site", x.payOf(5), 1000);
        CHECK.same("payOf of another worker", x.payOf(6), 7);
        CHECK.same("payByHours at the rate", x.payByHours(0, 3), 7);
        CHECK.same("payByHours at both", x.payByHours(0, 4), 1011);
        x.correct(0, 0);
        CHECK.same("payOf without the first week", x.payOf(4), 7);
    }

    // Pay, runs and holidays

    private static void payRoundedDown() {
        AssignmentHouse x = byDays(9, 10);
        x.setRates(0, 1, 1);
        CHECK.same("half of 19", x.payOf(0), 9);
        CHECK.same("half of 22", x.payOf(1), 11);
        x.shift(0, 0, 0, 1);
        CHECK.same("half of 3", x.payOf(2), 1);
        CHECK.same("each shift for itself", x.pay(0, 0), 21);
        CHECK.same("each shift for itself by hours", x.payByHours(0, 0), 21);
        x.setRates(0, 10000, 10000);
        CHECK.same("at the most", x.payOf(0), 95000);
    }

    private static void chargeRoundedDown() {
        AssignmentHouse x = byDays(1, 1);
        x.setRates(0, 99, 99);
        x.setMargins(0, 1, 0, 1000);
        CHECK.same("99.99", x.chargeOf(0), 99);
        CHECK.same("each shift for itself", x.toBill(0, 0), 198);
        x.setMargins(0, 0, 0, 1000);
        CHECK.same("margin 0", x.chargeOf(0), 99);
        x.setMargins(0, 100, 0, 1000);
        CHECK.same("margin 100", x.chargeOf(0), 198);
        x.setMargins(0, 100, 1, 1);
        CHECK.same("99.99 by the low margin", x.chargeOf(0), 99);
        AssignmentHouse half = byDays(9);
        half.setRates(0, 1, 1);
        half.setMargins(0, 20, 0, 1000);
        CHECK.same("10.8 of 9, not 11.4 of 9.5", half.chargeOf(0), 10);
    }

    private static void volumeOrMore() {
        AssignmentHouse x = byDays(4);
        x.shift(1, 0, 6, 5);
        x.shift(1, 0, 7, 16);
        x.shift(1, 1, 0, 16);
        x.setMargins(0, 30, 7, 10);
        CHECK.same("one hour less", x.chargeOf(0), 5200);
        x.setMargins(0, 30, 7, 9);
        CHECK.same("the volume", x.chargeOf(0), 4280);
        CHECK.same("the volume, the other shift", x.chargeOf(1), 5350);
        CHECK.same("the volume, both", x.toBill(0, 0), 9630);
        x.setMargins(0, 30, 7, 8);
        CHECK.same("one hour more", x.chargeOf(0), 4280);
        x.setMargins(0, 30, 7, 17);
        CHECK.same("one hour less in the next week", x.chargeOf(2), 26000);
        x.setMargins(0, 30, 7, 16);
        CHECK.same("the volume in the next week", x.chargeOf(2), 21400);
        x.setMargins(0, 30, 7, 9);
        x.correct(1, 4);
        CHECK.same("one hour less by a correction", x.chargeOf(0), 5200);
    }

    private static void paidBelowZero() {
        AssignmentHouse x = byDays(8);
        x.shift(1, 0, 0, 1);
        CHECK.same("the first run", x.run(0), 9000);
        CHECK.same("nothing more", x.run(0), 0);
        x.correct(0, 0);
        CHECK.same("below 0", x.run(0), -8000);
        CHECK.same("paid to 0", x.paid(0, 0), 0);
        CHECK.same("paid to 1", x.paid(1, 0), 1000);
        x.correct(0, 8);
        CHECK.same("and above again", x.run(0), 8000);
        CHECK.same("paid to 0 again", x.paid(0, 0), 8000);
    }

    private static void billedBelowZero() {
        AssignmentHouse x = byDays(8);
        x.shift(1, 1, 0, 1);
        x.run(0);
        CHECK.same("billed to 0", x.billed(0, 0), 9600);
        CHECK.same("billed to 1", x.billed(1, 0), 1200);
        x.run(0);
        CHECK.same("billed once", x.billed(0, 0), 9600);
        x.correct(0, 0);
        CHECK.same("to bill below 0", x.toBill(0, 0), -9600);
        x.run(0);
        CHECK.same("billed to 0 by then", x.billed(0, 0), 0);
        CHECK.same("billed to 1 by then", x.billed(1, 0), 1200);
    }

    private static void holidayByTheHour() {
        CHECK.same("without a shift", fresh().holiday(0), 0);
        CHECK.same("by 1 hour", byDays(1).holiday(0), 7);
        CHECK.same("by overtime", byDays(16).holiday(0), 112);
        CHECK.same("of another worker", byDays(16).holiday(1), 0);
        AssignmentHouse most = fresh();
        for (int number = 0; number < 80; number++) {
            most.shift(5, number % 4, 60 + number, 16);
        }
        CHECK.same("the most there can be", most.holiday(5), 8960);
        CHECK.same("the most that can be taken", most.takeHoliday(5, 8960), 0);
    }

    private static void holidayWheneverAsked() {
        AssignmentHouse x = byDays(10);
        x.takeHoliday(0, 7);
        CHECK.same("less what was taken", x.holiday(0), 63);
        x.correct(0, 1);
        CHECK.same("by the hours of now, all taken", x.holiday(0), 0);
        x.correct(0, 16);
        CHECK.same("by the hours of now, more", x.holiday(0), 105);
        x.run(0);
        CHECK.same("a run takes none", x.holiday(0), 105);
    }
}
