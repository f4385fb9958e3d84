/** The promises 1 to 21 in their order: ordinary inputs, the edges the document names, wrong inputs. */
public final class PromiseTest {
    private static final Check CHECK = new Check("PromiseTest");
    private static final int[] BAD_NUMBERS = {Integer.MIN_VALUE, -1, Integer.MAX_VALUE};

    private PromiseTest() {
    }

    public static void main(String[] args) {
        promise1NewObject();
        promise2SetRates();
        promise3SetMargins();
        promise4SetEqual();
        promise5Shift();
        promise6Correct();
        promise7Shifts();
        promise8Hours();
        promise9Overtime();
        promise10HasEqual();
        promise11PayOf();
        promise12ChargeOf();
        promise13And14Pay();
        promise15To17Run();
        promise18And19Owing();
        promise20And21Holidays();
        theMostThereCanBe();
        CHECK.end();
    }

    private static void promise1NewObject() {
        AssignmentHouse x = new AssignmentHouse();
        CHECK.same("shifts() of a new object", x.shifts(), 0);
        for (int week = 0; week < 20; week++) {
            for (int worker = 0; worker < 6; worker++) {
                CHECK.same("hours at first", x.hours(worker, week), 0);
                CHECK.same("paid at first", x.paid(worker, week), 0);
            }
            for (int site = 0; site < 4; site++) {
                CHECK.same("billed at first", x.billed(site, week), 0);
                CHECK.same("toBill at first", x.toBill(site, week), 0);
            }
        }
        for (int site = 0; site < 4; site++) {
            CHECK.same("shift", x.shift(site, site, 0, 1), site);
            CHECK.same("the first rate", x.payOf(site), 1000);
            CHECK.same("the first margin", x.chargeOf(site), 1200);
        }
        firstVolumeAndLowMargin();
        AssignmentHouse y = new AssignmentHouse();
        CHECK.same("another object begins without shifts too", y.shifts(), 0);
    }

    private static void firstVolumeAndLowMargin() {
        for (int site = 0; site < 4; site++) {
            AssignmentHouse x = new AssignmentHouse();
            for (int day = 0; day < 6; day++) {
                x.shift(day, site, day, 16);
            }
            x.shift(0, site, 6, 3);
            CHECK.same("the margin at 99 hours", x.chargeOf(6), 3600);
            x.correct(6, 4);
            CHECK.same("the low margin at 100 hours", x.chargeOf(6), 4400);
        }
    }

    private static void promise2SetRates() {
        AssignmentHouse x = new AssignmentHouse();
        x.shift(0, 1, 0, 1);
        x.shift(0, 2, 0, 1);
        x.setRates(1, 1, 1);
        CHECK.same("payOf at rate 1", x.payOf(0), 1);
        CHECK.same("payOf at another site", x.payOf(1), 1000);
        x.setRates(1, 10000, 10000);
        CHECK.same("payOf at rate 10000", x.payOf(0), 10000);
        x.setRates(1, 1500, 1500);
        CHECK.badArgument("rate 0", () -> x.setRates(1, 0, 1500));
        CHECK.badArgument("rate 10001", () -> x.setRates(1, 10001, 10001));
        CHECK.badArgument("equal below rate", () -> x.setRates(1, 1600, 1599));
        CHECK.badArgument("equal 10001", () -> x.setRates(1, 1600, 10001));
        CHECK.badArgument("least rate", () -> x.setRates(1, Integer.MIN_VALUE, 1600));
        CHECK.noSuch("site 4 and rate 0", () -> x.setRates(4, 0, 0));
        CHECK.noSuch("site 4", () -> x.setRates(4, 1600, 1700));
        for (int bad : BAD_NUMBERS) {
            CHECK.noSuch("site " + bad, () -> x.setRates(bad, 1600, 1700));
        }
        CHECK.same("payOf after calls that threw", x.payOf(0), 1500);
        x.setRates(0, 1, 2);
        x.setRates(3, 1, 2);
    }

    private static void promise3SetMargins() {
        AssignmentHouse x = new AssignmentHouse();
        x.shift(0, 1, 0, 5);
        x.setMargins(1, 0, 0, 1000);
        CHECK.same("margin 0", x.chargeOf(0), 5000);
        x.setMargins(1, 100, 100, 1000);
        CHECK.same("margin 100", x.chargeOf(0), 10000);
        x.setMargins(1, 30, 0, 1);
        CHECK.same("low margin 0 from volume 1", x.chargeOf(0), 5000);
        x.setMargins(1, 30, 7, 5);
        CHECK.same("the volume itself is low", x.chargeOf(0), 5350);
        x.setMargins(1, 30, 7, 6);
        CHECK.same("below the volume", x.chargeOf(0), 6500);
        CHECK.badArgument("margin -1", () -> x.setMargins(1, -1, 0, 9));
        CHECK.badArgument("margin -1 and low -1", () -> x.setMargins(1, -1, -1, 9));
        CHECK.badArgument("margin 101", () -> x.setMargins(1, 101, 0, 9));
        CHECK.badArgument("low -1", () -> x.setMargins(1, 10, -1, 9));
        CHECK.badArgument("low above margin", () -> x.setMargins(1, 10, 11, 9));
        CHECK.badArgument("volume 0", () -> x.setMargins(1, 10, 10, 0));
        CHECK.badArgument("volume 1001", () -> x.setMargins(1, 10, 10, 1001));
        CHECK.noSuch("site 4 and margin -1", () -> x.setMargins(4, -1, 0, 0));
        for (int bad : BAD_NUMBERS) {
            CHECK.noSuch("site " + bad, () -> x.setMargins(bad, 10, 5, 9));
        }
        CHECK.same("chargeOf after calls that threw", x.chargeOf(0), 6500);
    }

    private static void promise4SetEqual() {
        AssignmentHouse x = new AssignmentHouse();
        for (int week = 0; week < 12; week++) {
            x.shift(0, 0, week * 7, 1);
        }
        x.setEqual(12, 0);
        CHECK.no("11 weeks of 12", x.hasEqual(0, 0, 11));
        CHECK.yes("12 weeks of 12", x.hasEqual(0, 0, 12));
        CHECK.no("a week between, no gap", x.hasEqual(0, 0, 13));
        x.setEqual(12, 6);
        CHECK.yes("6 weeks between, gap 6", x.hasEqual(0, 0, 18));
        CHECK.no("7 weeks between, gap 6", x.hasEqual(0, 0, 19));
        x.setEqual(1, 0);
        CHECK.no("no week before", x.hasEqual(0, 0, 0));
        CHECK.yes("1 week of 1", x.hasEqual(0, 0, 1));
        CHECK.badArgument("span 0", () -> x.setEqual(0, 3));
        CHECK.badArgument("span 13", () -> x.setEqual(13, 3));
        CHECK.badArgument("gap -1", () -> x.setEqual(3, -1));
        CHECK.badArgument("gap 7", () -> x.setEqual(3, 7));
        CHECK.yes("span kept after calls that threw", x.hasEqual(0, 0, 1));
        CHECK.no("gap kept after calls that threw", x.hasEqual(0, 0, 13));
    }

    private static void promise5Shift() {
        AssignmentHouse x = new AssignmentHouse();
        CHECK.same("first number", x.shift(0, 0, 0, 16), 0);
        CHECK.same("24 hours on a day", x.shift(0, 3, 0, 8), 1);
        CHECK.badState("25 hours on a day", () -> x.shift(0, 1, 0, 1));
        CHECK.same("another worker", x.shift(5, 1, 0, 1), 2);
        CHECK.same("the last day", x.shift(0, 0, 139, 1), 3);
        CHECK.badArgument("day -1", () -> x.shift(0, 0, -1, 1));
        CHECK.badArgument("day 140", () -> x.shift(0, 0, 140, 1));
        CHECK.badArgument("hours 0", () -> x.shift(0, 0, 1, 0));
        CHECK.badArgument("hours 17", () -> x.shift(0, 0, 1, 17));
        CHECK.badArgument("most hours", () -> x.shift(0, 0, 0, Integer.MAX_VALUE));
        CHECK.badArgument("hours 17 on a full day", () -> x.shift(0, 0, 0, 17));
        CHECK.noSuch("worker 6, day -1", () -> x.shift(6, 0, -1, 1));
        CHECK.noSuch("site 4, hours 0", () -> x.shift(0, 4, 0, 0));
        for (int bad : BAD_NUMBERS) {
            CHECK.noSuch("worker " + bad, () -> x.shift(bad, 0, 1, 1));
            CHECK.noSuch("site " + bad, () -> x.shift(0, bad, 1, 1));
            CHECK.badArgument("day " + bad, () -> x.shift(0, 0, bad, 1));
        }
        CHECK.same("shifts after calls that threw", x.shifts(), 4);
        for (int number = 4; number < 80; number++) {
            CHECK.same("next number", x.shift(1, 0, 20 + number, 1), number);
        }
        CHECK.badState("shift 80", () -> x.shift(2, 0, 0, 1));
        CHECK.badArgument("shift 80 with hours 0", () -> x.shift(2, 0, 0, 0));
        CHECK.noSuch("shift 80 of worker 6", () -> x.shift(6, 0, 0, 1));
        CHECK.same("shifts at most", x.shifts(), 80);
        CHECK.same("the last shift's pay, at the equal rate", x.payOf(79), 1200);
    }

    private static void promise6Correct() {
        AssignmentHouse x = new AssignmentHouse();
        x.shift(0, 0, 0, 10);
        x.shift(0, 1, 0, 8);
        CHECK.same("hours before", x.correct(0, 16), 10);
        CHECK.same("the same again", x.correct(0, 16), 16);
        CHECK.badState("25 hours", () -> x.correct(1, 9));
        CHECK.same("to 0", x.correct(0, 0), 16);
        CHECK.same("from 0", x.correct(0, 3), 0);
        CHECK.same("hours of the week", x.hours(0, 0), 11);
        CHECK.badArgument("hours -1", () -> x.correct(0, -1));
        CHECK.badArgument("hours 17", () -> x.correct(0, 17));
        CHECK.noSuch("shift 2", () -> x.correct(2, -1));
        for (int bad : BAD_NUMBERS) {
            CHECK.noSuch("shift " + bad, () -> x.correct(bad, 1));
        }
        CHECK.same("take 70 of 77", x.takeHoliday(0, 70), 7);
        CHECK.badState("9 hours earn 63", () -> x.correct(0, 1));
        CHECK.same("10 hours earn 70", x.correct(0, 2), 3);
        CHECK.same("nothing left", x.holiday(0), 0);
        CHECK.badArgument("hours 17, holiday taken", () -> x.correct(0, 17));
        x.correct(0, 3);
        x.takeHoliday(0, 1);
        CHECK.badState("10 hours earn one minute too few", () -> x.correct(0, 2));
        x.shift(1, 0, 0, 5);
        CHECK.same("another worker's holiday does not matter", x.correct(2, 0), 5);
        CHECK.same("corrected up", x.correct(0, 16), 3);
    }

    private static void promise7Shifts() {
        AssignmentHouse x = new AssignmentHouse();
        x.shift(0, 0, 0, 1);
        x.shift(1, 0, 0, 1);
        CHECK.same("two", x.shifts(), 2);
        x.correct(0, 0);
        CHECK.same("two with one of 0 hours", x.shifts(), 2);
        CHECK.same("its pay", x.payOf(0), 0);
        CHECK.same("its charge", x.chargeOf(0), 0);
        CHECK.same("its overtime", x.overtime(0), 0);
        CHECK.same("a new one's number", x.shift(0, 0, 0, 1), 2);
    }

    private static void promise8Hours() {
        AssignmentHouse x = new AssignmentHouse();
        x.shift(0, 0, 6, 5);
        x.shift(0, 1, 7, 6);
        x.shift(0, 2, 13, 7);
        x.shift(1, 2, 13, 9);
        x.shift(5, 3, 139, 4);
        CHECK.same("week 0 ends with day 6", x.hours(0, 0), 5);
        CHECK.same("week 1 is days 7 to 13", x.hours(0, 1), 13);
        CHECK.same("another worker", x.hours(1, 1), 9);
        CHECK.same("the last week", x.hours(5, 19), 4);
        CHECK.noSuch("worker 6", () -> x.hours(6, 0));
        CHECK.noSuch("week 20", () -> x.hours(0, 20));
        for (int bad : BAD_NUMBERS) {
            CHECK.noSuch("worker " + bad, () -> x.hours(bad, 0));
            CHECK.noSuch("week " + bad, () -> x.hours(0, bad));
        }
    }

    private static void promise9Overtime() {
        AssignmentHouse x = new AssignmentHouse();
        x.shift(0, 0, 0, 8);
        CHECK.same("8 on a day", x.overtime(0), 0);
        x.shift(0, 1, 0, 1);
        CHECK.same("the ninth, at another site", x.overtime(1), 1);
        x.shift(0, 0, 1, 5);
        x.shift(0, 1, 1, 5);
        CHECK.same("by numbers, the first", x.overtime(2), 0);
        CHECK.same("by numbers, the second", x.overtime(3), 2);
        x.shift(0, 0, 4, 16);
        x.shift(0, 0, 3, 8);
        x.shift(0, 2, 5, 9);
        CHECK.same("day 4 has 8 of 16", x.overtime(4), 8);
        CHECK.same("day 5 has the last 8 of 40", x.overtime(6), 1);
        x.shift(0, 0, 2, 6);
        CHECK.same("a later number on an earlier day goes ahead", x.overtime(6), 7);
        CHECK.same("and has none itself", x.overtime(7), 0);
        x.shift(0, 3, 6, 3);
        CHECK.same("all over 40", x.overtime(8), 3);
        x.shift(0, 3, 7, 3);
        CHECK.same("a new week", x.overtime(9), 0);
        x.shift(1, 0, 0, 8);
        CHECK.same("another worker", x.overtime(10), 0);
        x.correct(0, 0);
        CHECK.same("after a correction by day", x.overtime(1), 0);
        CHECK.same("after a correction by week", x.overtime(8), 2);
        CHECK.noSuch("shift 11", () -> x.overtime(11));
        for (int bad : BAD_NUMBERS) {
            CHECK.noSuch("shift " + bad, () -> x.overtime(bad));
        }
    }

    private static void promise10HasEqual() {
        AssignmentHouse x = new AssignmentHouse();
        int[] worked = {0, 3, 4, 7};
        for (int week : worked) {
            x.shift(2, 3, week * 7 + 6, 1);
        }
        CHECK.no("three of four", x.hasEqual(2, 3, 7));
        CHECK.yes("four, with gaps of two", x.hasEqual(2, 3, 8));
        CHECK.yes("two weeks later", x.hasEqual(2, 3, 10));
        CHECK.no("three weeks later", x.hasEqual(2, 3, 11));
        CHECK.no("at another site", x.hasEqual(2, 2, 8));
        CHECK.no("another worker", x.hasEqual(1, 3, 8));
        x.correct(0, 0);
        CHECK.no("0 hours do not count", x.hasEqual(2, 3, 8));
        x.correct(0, 2);
        x.setEqual(4, 1);
        CHECK.no("a smaller gap", x.hasEqual(2, 3, 8));
        x.setEqual(5, 2);
        CHECK.no("a longer span", x.hasEqual(2, 3, 8));
        x.shift(2, 3, 56, 1);
        CHECK.no("its own week does not count", x.hasEqual(2, 3, 8));
        CHECK.yes("but for the next", x.hasEqual(2, 3, 9));
        CHECK.noSuch("worker 6", () -> x.hasEqual(6, 3, 8));
        CHECK.noSuch("site 4", () -> x.hasEqual(2, 4, 8));
        CHECK.noSuch("week 20", () -> x.hasEqual(2, 3, 20));
        for (int bad : BAD_NUMBERS) {
            CHECK.noSuch("worker " + bad, () -> x.hasEqual(bad, 3, 8));
            CHECK.noSuch("site " + bad, () -> x.hasEqual(2, bad, 8));
            CHECK.noSuch("week " + bad, () -> x.hasEqual(2, 3, bad));
        }
    }

    private static void promise11PayOf() {
        AssignmentHouse x = new AssignmentHouse();
        x.shift(0, 0, 0, 10);
        CHECK.same("8 and 2 over", x.payOf(0), 11000);
        x.setRates(0, 1001, 1003);
        x.correct(0, 9);
        CHECK.same("half of 19 * 1001, down", x.payOf(0), 9509);
        for (int week = 1; week < 5; week++) {
            x.shift(0, 0, week * 7, 9);
        }
        CHECK.same("week 3 has the rate", x.payOf(3), 9509);
        CHECK.same("week 4 has the equal rate", x.payOf(4), 9528);
        x.setRates(0, 10000, 10000);
        x.shift(0, 0, 28, 15);
        CHECK.same("15 all over", x.payOf(5), 225000);
        CHECK.noSuch("shift 6", () -> x.payOf(6));
        for (int bad : BAD_NUMBERS) {
            CHECK.noSuch("shift " + bad, () -> x.payOf(bad));
        }
    }

    private static void promise12ChargeOf() {
        AssignmentHouse x = new AssignmentHouse();
        x.setRates(0, 999, 999);
        x.setMargins(0, 33, 11, 12);
        x.shift(0, 0, 0, 1);
        CHECK.same("999 * 133 / 100, down", x.chargeOf(0), 1328);
        x.shift(1, 0, 6, 11);
        CHECK.same("the volume of all workers in the week", x.chargeOf(0), 1108);
        CHECK.same("of 12487", x.chargeOf(1), 13860);
        x.shift(1, 0, 7, 11);
        CHECK.same("the next week has its own", x.chargeOf(2), 16607);
        x.shift(2, 1, 7, 11);
        CHECK.same("another site's hours do not count", x.chargeOf(2), 16607);
        x.correct(0, 0);
        CHECK.same("a correction takes the step back", x.chargeOf(1), 16607);
        CHECK.noSuch("shift 4", () -> x.chargeOf(4));
        for (int bad : BAD_NUMBERS) {
            CHECK.noSuch("shift " + bad, () -> x.chargeOf(bad));
        }
    }

    private static void promise13And14Pay() {
        AssignmentHouse x = new AssignmentHouse();
        x.setRates(0, 1001, 1001);
        x.setRates(1, 1003, 1003);
        x.shift(0, 0, 0, 9);
        x.shift(0, 1, 0, 1);
        x.shift(0, 1, 1, 9);
        x.shift(1, 1, 1, 9);
        x.shift(0, 1, 7, 2);
        CHECK.same("each shift rounded down: 9509 + 1504 + 9528", x.pay(0, 0), 20541);
        CHECK.same("the same by hours", x.payByHours(0, 0), 20541);
        CHECK.same("another worker", x.pay(1, 0), 9528);
        CHECK.same("another worker by hours", x.payByHours(1, 0), 9528);
        CHECK.same("another week", x.pay(0, 1), 2006);
        CHECK.same("another week by hours", x.payByHours(0, 1), 2006);
        for (int day = 2; day < 7; day++) {
            x.shift(0, 1, day, 8);
        }
        CHECK.same("24 plain, 16 over more", x.pay(0, 0), 20541 + 24072 + 24072);
        CHECK.same("the same by hours", x.payByHours(0, 0), 20541 + 24072 + 24072);
        CHECK.same("without shifts", x.pay(5, 19), 0);
        CHECK.same("without shifts by hours", x.payByHours(5, 19), 0);
        CHECK.noSuch("pay of worker 6", () -> x.pay(6, 0));
        CHECK.noSuch("pay in week 20", () -> x.pay(0, 20));
        CHECK.noSuch("payByHours of worker 6", () -> x.payByHours(6, 0));
        CHECK.noSuch("payByHours in week 20", () -> x.payByHours(0, 20));
        for (int bad : BAD_NUMBERS) {
            CHECK.noSuch("pay of worker " + bad, () -> x.pay(bad, 0));
            CHECK.noSuch("pay in week " + bad, () -> x.pay(0, bad));
            CHECK.noSuch("payByHours of worker " + bad, () -> x.payByHours(bad, 0));
            CHECK.noSuch("payByHours in week " + bad, () -> x.payByHours(0, bad));
        }
    }

    private static void promise15To17Run() {
        AssignmentHouse x = new AssignmentHouse();
        x.shift(0, 0, 0, 8);
        x.shift(5, 3, 6, 10);
        x.shift(0, 0, 7, 1);
        CHECK.same("all workers together", x.run(0), 19000);
        CHECK.same("paid to 0", x.paid(0, 0), 8000);
        CHECK.same("paid to 5", x.paid(5, 0), 11000);
        CHECK.same("paid for week 1", x.paid(0, 1), 0);
        CHECK.same("billed to 0", x.billed(0, 0), 9600);
        CHECK.same("billed to 3", x.billed(3, 0), 13200);
        CHECK.same("billed for week 1", x.billed(0, 1), 0);
        CHECK.same("nothing more", x.run(0), 0);
        x.correct(0, 6);
        CHECK.same("the difference alone, below 0", x.run(0), -2000);
        CHECK.same("paid to 0 by then", x.paid(0, 0), 6000);
        CHECK.same("billed to 0 by then", x.billed(0, 0), 7200);
        x.setRates(3, 2000, 2000);
        x.setMargins(0, 50, 0, 1000);
        CHECK.same("by the rates of now", x.run(0), 11000);
        CHECK.same("billed by the rates of now", x.billed(3, 0), 26400);
        CHECK.same("billed by the margins of now", x.billed(0, 0), 9000);
        CHECK.same("an empty week", x.run(19), 0);
        CHECK.same("the other week", x.run(1), 1000);
        CHECK.same("paid for the other week", x.paid(0, 1), 1000);
        CHECK.same("billed for the other week", x.billed(0, 1), 1500);
        everyCellHasItsOwn();
        x.correct(0, 0);
        CHECK.same("before a run all is as it was", x.paid(0, 0), 6000);
        x.run(0);
        CHECK.same("paid back", x.paid(0, 0), 0);
        CHECK.same("billed back", x.billed(0, 0), 0);
        CHECK.noSuch("run 20", () -> x.run(20));
        CHECK.noSuch("paid to worker 6", () -> x.paid(6, 0));
        CHECK.noSuch("paid for week 20", () -> x.paid(0, 20));
        CHECK.noSuch("billed to site 4", () -> x.billed(4, 0));
        CHECK.noSuch("billed for week 20", () -> x.billed(0, 20));
        for (int bad : BAD_NUMBERS) {
            CHECK.noSuch("run " + bad, () -> x.run(bad));
            CHECK.noSuch("paid to worker " + bad, () -> x.paid(bad, 0));
            CHECK.noSuch("paid for week " + bad, () -> x.paid(0, bad));
            CHECK.noSuch("billed to site " + bad, () -> x.billed(bad, 0));
            CHECK.noSuch("billed for week " + bad, () -> x.billed(0, bad));
        }
    }

    private static void everyCellHasItsOwn() {
        AssignmentHouse x = new AssignmentHouse();
        x.shift(1, 2, 3 * 7, 1);
        x.shift(4, 1, 19 * 7, 2);
        CHECK.same("run 3", x.run(3), 1000);
        CHECK.same("run 19", x.run(19), 2000);
        for (int week = 0; week < 20; week++) {
            for (int worker = 0; worker < 6; worker++) {
                int due = worker == 1 && week == 3 ? 1000 : worker == 4 && week == 19 ? 2000 : 0;
                CHECK.same("paid(" + worker + ", " + week + ")", x.paid(worker, week), due);
                CHECK.same("owing(" + worker + ", " + week + ")", x.owing(worker, week), 0);
            }
            for (int site = 0; site < 4; site++) {
                int due = site == 2 && week == 3 ? 1200 : site == 1 && week == 19 ? 2400 : 0;
                CHECK.same("billed(" + site + ", " + week + ")", x.billed(site, week), due);
                CHECK.same("toBill(" + site + ", " + week + ")", x.toBill(site, week), 0);
            }
        }
    }

    private static void promise18And19Owing() {
        AssignmentHouse x = new AssignmentHouse();
        x.shift(0, 0, 0, 8);
        CHECK.same("owing before a run", x.owing(0, 0), 8000);
        CHECK.same("toBill before a run", x.toBill(0, 0), 9600);
        x.run(0);
        CHECK.same("owing after it", x.owing(0, 0), 0);
        CHECK.same("toBill after it", x.toBill(0, 0), 0);
        x.correct(0, 5);
        CHECK.same("owing after a correction", x.owing(0, 0), -3000);
        CHECK.same("toBill after a correction", x.toBill(0, 0), -3600);
        x.setMargins(0, 20, 10, 5);
        CHECK.same("toBill after the step", x.toBill(0, 0), -4100);
        CHECK.same("owing for another week", x.owing(0, 1), 0);
        CHECK.same("toBill for another site", x.toBill(1, 0), 0);
        for (int week = 1; week < 4; week++) {
            x.shift(0, 0, week * 7, 1);
        }
        x.shift(0, 0, 28, 1);
        x.run(4);
        x.correct(1, 0);
        CHECK.same("a correction in week 1 takes the equal rate in week 4", x.owing(0, 4), -200);
        CHECK.noSuch("owing to worker 6", () -> x.owing(6, 0));
        CHECK.noSuch("owing for week 20", () -> x.owing(0, 20));
        CHECK.noSuch("toBill to site 4", () -> x.toBill(4, 0));
        CHECK.noSuch("toBill for week 20", () -> x.toBill(0, 20));
        for (int bad : BAD_NUMBERS) {
            CHECK.noSuch("owing to worker " + bad, () -> x.owing(bad, 0));
            CHECK.noSuch("owing for week " + bad, () -> x.owing(0, bad));
            CHECK.noSuch("toBill to site " + bad, () -> x.toBill(bad, 0));
            CHECK.noSuch("toBill for week " + bad, () -> x.toBill(0, bad));
        }
    }

    private static void promise20And21Holidays() {
        AssignmentHouse x = new AssignmentHouse();
        CHECK.same("none at first", x.holiday(0), 0);
        CHECK.badState("none to take", () -> x.takeHoliday(0, 1));
        x.shift(0, 0, 0, 10);
        x.shift(0, 3, 139, 2);
        x.shift(1, 3, 139, 2);
        CHECK.same("7 by the hour, overtime too", x.holiday(0), 84);
        CHECK.same("left", x.takeHoliday(0, 1), 83);
        CHECK.badState("84 of 83", () -> x.takeHoliday(0, 84));
        CHECK.same("not changed", x.holiday(0), 83);
        CHECK.same("all of it", x.takeHoliday(0, 83), 0);
        CHECK.same("another worker", x.holiday(1), 14);
        x.correct(0, 12);
        CHECK.same("after a correction", x.holiday(0), 14);
        CHECK.badArgument("minutes 0", () -> x.takeHoliday(0, 0));
        CHECK.badArgument("minutes -1", () -> x.takeHoliday(0, -1));
        CHECK.badArgument("minutes 10001", () -> x.takeHoliday(0, 10001));
        CHECK.badState("minutes 10000", () -> x.takeHoliday(0, 10000));
        CHECK.noSuch("worker 6, minutes 0", () -> x.takeHoliday(6, 0));
        CHECK.noSuch("holiday of worker 6", () -> x.holiday(6));
        for (int bad : BAD_NUMBERS) {
            CHECK.noSuch("takeHoliday of worker " + bad, () -> x.takeHoliday(bad, 1));
            CHECK.noSuch("holiday of worker " + bad, () -> x.holiday(bad));
        }
    }

    /** The most hours that there can be, at the most they can cost. */
    private static void theMostThereCanBe() {
        AssignmentHouse x = new AssignmentHouse();
        x.setRates(0, 10000, 10000);
        x.setMargins(0, 100, 100, 1000);
        for (int number = 0; number < 80; number++) {
            x.shift(number % 6, 0, number / 12, number / 6 % 2 == 0 ? 16 : 8);
        }
        int together = 0;
        for (int worker = 0; worker < 6; worker++) {
            CHECK.same("pay is as by hours", x.pay(worker, 0), x.payByHours(worker, 0));
            together += x.pay(worker, 0);
        }
        CHECK.same("hours of worker 0", x.hours(0, 0), 168);
        CHECK.same("its pay: 40 plain, 128 over", x.pay(0, 0), 400000 + 1920000);
        CHECK.same("run", x.run(0), together);
        CHECK.same("billed", x.billed(0, 0), 2 * together);
    }
}
