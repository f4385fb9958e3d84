import java.io.IOException;
import java.util.ArrayList;
import java.util.List;

/**
 * The sentences about calls that throw: every combination of edge arguments, in objects that are new,
 * in the middle of their work and full. The exception is found from the arguments alone; then each
 * question and some later calls must be answered as by a twin that was never called in vain.
 */
public final class RefusedTest {
    private static final Check CHECK = new Check("RefusedTest");
    private static final String NO_SUCH = "java.lang.IndexOutOfBoundsException";
    private static final String BAD_ARGUMENT = "java.lang.IllegalArgumentException";
    private static final String BAD_STATE = "java.lang.IllegalStateException";
    private static final int LEAST = Integer.MIN_VALUE;
    private static final int MOST = Integer.MAX_VALUE;
    private static final int PARTS = 6;

    private RefusedTest() {
    }

    public static void main(String[] args) throws IOException {
        Sentences sentences = new Sentences(CHECK, args);
        Scene[] scenes = {new NewScene(), new BusyScene(), new FullScene()};
        sentences.of("Terms", "the one that its throws clause names first is thrown", () -> {
            for (Scene scene : scenes) {
                for (Call call : calls(scene)) {
                    CHECK.same(scene.name() + ", " + call.text + " throws", thrown(scene.made(), call), call.due);
                }
            }
        });
        sentences.of("Terms", "a call that throws changes nothing", () -> {
            for (Scene scene : scenes) {
                changesNothing(scene);
            }
        });
        CHECK.end();
    }

    private static void changesNothing(Scene scene) {
        List<List<String>> due = new ArrayList<>();
        for (int part = 0; part < PARTS; part++) {
            due.add(answers(scene.made(), part));
        }
        for (Call call : calls(scene)) {
            if (!call.due.isEmpty()) {
                for (int part = 0; part < PARTS; part++) {
                    AssignmentHouse x = scene.made();
                    thrown(x, call);
                    CHECK.holds(scene.name() + ", " + call.text + " changed something, part " + part,
                            answers(x, part).equals(due.get(part)));
                }
            }
        }
    }

    private interface Asked {
        long of(AssignmentHouse x);
    }

    private static final class Call {
        final String text;
        final String due;
        final Asked asked;

        Call(String text, String due, Asked asked) {
            this.text = text;
            this.due = due;
            this.asked = asked;
        }
    }

    private static String thrown(AssignmentHouse x, Call call) {
        try {
            call.asked.of(x);
            return "";
        } catch (RuntimeException e) {
            return e.getClass().getName();
        }
    }

    private static String answer(AssignmentHouse x, Asked asked) {
        try {
            return Long.toString(asked.of(x));
        } catch (RuntimeException e) {
            return e.getClass().getName();
        }
    }

    // What can be asked, in parts, so that no object is called more than 512 times

    private static List<String> answers(AssignmentHouse x, int part) {
        List<String> all = new ArrayList<>();
        switch (part) {
            case 0 -> askShifts(x, all);
            case 1 -> askWorkers(x, all);
            case 2 -> askPayments(x, all);
            case 3 -> askEqual(x, all, 0);
            case 4 -> askEqual(x, all, 3);
            default -> goOn(x, all);
        }
        return all;
    }

    private static void askShifts(AssignmentHouse x, List<String> all) {
        all.add(answer(x, y -> y.shifts()));
        for (int shift = 0; shift <= 80; shift++) {
            int number = shift;
            all.add(answer(x, y -> y.overtime(number)));
            all.add(answer(x, y -> y.payOf(number)));
            all.add(answer(x, y -> y.chargeOf(number)));
        }
        for (int site = 0; site < 4; site++) {
            for (int week = 0; week < 20; week++) {
                all.add(Integer.toString(x.toBill(site, week)));
            }
        }
    }

    private static void askWorkers(AssignmentHouse x, List<String> all) {
        for (int worker = 0; worker < 6; worker++) {
            all.add(Integer.toString(x.holiday(worker)));
            for (int week = 0; week < 20; week++) {
                all.add(Integer.toString(x.hours(worker, week)));
                all.add(Integer.toString(x.pay(worker, week)));
                all.add(Integer.toString(x.payByHours(worker, week)));
            }
        }
    }

    private static void askPayments(AssignmentHouse x, List<String> all) {
        for (int week = 0; week < 20; week++) {
            for (int worker = 0; worker < 6; worker++) {
                all.add(Integer.toString(x.paid(worker, week)));
                all.add(Integer.toString(x.owing(worker, week)));
            }
            for (int site = 0; site < 4; site++) {
                all.add(Integer.toString(x.billed(site, week)));
            }
        }
    }

    private static void askEqual(AssignmentHouse x, List<String> all, int firstWorker) {
        for (int worker = firstWorker; worker < firstWorker + 3; worker++) {
            for (int site = 0; site < 4; site++) {
                for (int week = 0; week < 20; week++) {
                    all.add(Boolean.toString(x.hasEqual(worker, site, week)));
                }
            }
        }
    }

    private static void goOn(AssignmentHouse x, List<String> all) {
        for (int worker = 0; worker < 6; worker++) {
            int number = worker;
            all.add(answer(x, y -> y.takeHoliday(number, 1)));
            all.add(answer(x, y -> y.shift(number, number % 4, 7 * number, 3)));
            all.add(answer(x, y -> y.correct(number, 2)));
        }
        for (int week = 0; week < 20; week++) {
            all.add(Integer.toString(x.run(week)));
            all.add(Integer.toString(x.paid(week % 6, week)));
            all.add(Integer.toString(x.billed(week % 4, week)));
        }
        for (int shift = 0; shift <= 80; shift++) {
            int number = shift;
            all.add(answer(x, y -> y.chargeOf(number)));
        }
    }

    // The objects, and which of the calls in range their state refuses

    private interface Scene {
        String name();

        AssignmentHouse made();

        int shifts();

        boolean hasRoom(int worker, int day, int hours);

        boolean canCorrect(int shift, int hours);

        int minutesLeft(int worker);
    }

    private static final class NewScene implements Scene {
        public String name() {
            return "new";
        }

        public AssignmentHouse made() {
            return new AssignmentHouse();
        }

        public int shifts() {
            return 0;
        }

        public boolean hasRoom(int worker, int day, int hours) {
            return true;
        }

        public boolean canCorrect(int shift, int hours) {
            return false;
        }

        public int minutesLeft(int worker) {
            return 0;
        }
    }

    private static final class BusyScene implements Scene {
        public String name() {
            return "busy";
        }

        public AssignmentHouse made() {
            AssignmentHouse x = new AssignmentHouse();
            x.setRates(0, 1001, 1203);
            x.setRates(3, 333, 777);
            x.setMargins(0, 33, 11, 40);
            x.setMargins(3, 57, 0, 12);
            x.setEqual(2, 1);
            x.shift(0, 0, 0, 16);
            x.shift(0, 3, 0, 8);
            x.shift(5, 3, 139, 9);
            x.shift(0, 0, 7, 9);
            x.shift(0, 0, 14, 5);
            x.shift(1, 0, 1, 16);
            x.shift(2, 0, 2, 9);
            x.shift(5, 3, 132, 1);
            x.shift(5, 3, 125, 4);
            x.shift(3, 1, 70, 8);
            x.run(0);
            x.run(10);
            x.run(19);
            x.correct(6, 8);
            x.correct(9, 0);
            x.takeHoliday(0, 260);
            x.takeHoliday(5, 28);
            return x;
        }

        public int shifts() {
            return 10;
        }

        public boolean hasRoom(int worker, int day, int hours) {
            return !(worker == 0 && day == 0) && !(worker == 5 && day == 139 && hours > 15);
        }

        /** Worker 0 has 24 hours on day 0 and 6 minutes left, less than an hour earns. */
        public boolean canCorrect(int shift, int hours) {
            return switch (shift) {
                case 0 -> hours == 16;
                case 1 -> hours == 8;
                case 3 -> hours >= 9;
                case 4 -> hours >= 5;
                default -> true;
            };
        }

        public int minutesLeft(int worker) {
            return new int[] {6, 112, 56, 0, 0, 70}[worker];
        }
    }

    private static final class FullScene implements Scene {
        public String name() {
            return "full";
        }

        public AssignmentHouse made() {
            AssignmentHouse x = new AssignmentHouse();
            for (int number = 0; number < 80; number++) {
                x.shift(number % 6, number % 4, number, 1 + number % 16);
            }
            x.run(3);
            x.run(11);
            x.correct(79, 7);
            return x;
        }

        public int shifts() {
            return 80;
        }

        public boolean hasRoom(int worker, int day, int hours) {
            return false;
        }

        public boolean canCorrect(int shift, int hours) {
            return true;
        }

        public int minutesLeft(int worker) {
            int hours = 0;
            for (int number = worker; number < 80; number += 6) {
                hours += number == 79 ? 7 : 1 + number % 16;
            }
            return 7 * hours;
        }
    }

    // The calls

    private static boolean isOneOf(int number, int end) {
        return number >= 0 && number <= end - 1;
    }

    private static boolean isFrom(int value, int least, int most) {
        return value >= least && value <= most;
    }

    private static String due(boolean isThere, boolean isInRange, boolean isAllowed) {
        if (!isThere) {
            return NO_SUCH;
        }
        if (!isInRange) {
            return BAD_ARGUMENT;
        }
        return isAllowed ? "" : BAD_STATE;
    }

    private static List<Call> calls(Scene scene) {
        List<Call> all = new ArrayList<>();
        addRates(all);
        addMargins(all);
        addEqual(all);
        addShift(all, scene);
        addCorrect(all, scene);
        addTakeHoliday(all, scene);
        addQuestions(all, scene);
        return all;
    }

    private static void addRates(List<Call> all) {
        for (int site : new int[] {LEAST, -1, 0, 3, 4, MOST}) {
            for (int rate : new int[] {LEAST, 0, 1, 500, 10000, 10001, MOST}) {
                for (int equal : new int[] {LEAST, 0, 499, 500, 10000, 10001, MOST}) {
                    boolean isInRange = isFrom(rate, 1, 10000) && isFrom(equal, rate, 10000);
                    all.add(new Call("setRates(" + site + ", " + rate + ", " + equal + ")",
                            due(isOneOf(site, 4), isInRange, true), x -> {
                                x.setRates(site, rate, equal);
                                return 0;
                            }));
                }
            }
        }
    }

    private static void addMargins(List<Call> all) {
        for (int site : new int[] {-1, 0, 3, 4}) {
            for (int margin : new int[] {LEAST, -1, 0, 50, 100, 101, MOST}) {
                for (int low : new int[] {-1, 0, 50, 51, 101}) {
                    for (int volume : new int[] {LEAST, 0, 1, 1000, 1001, MOST}) {
                        boolean isInRange = isFrom(margin, 0, 100) && isFrom(low, 0, margin)
                                && isFrom(volume, 1, 1000);
                        all.add(new Call("setMargins(" + site + ", " + margin + ", " + low + ", " + volume + ")",
                                due(isOneOf(site, 4), isInRange, true), x -> {
                                    x.setMargins(site, margin, low, volume);
                                    return 0;
                                }));
                    }
                }
            }
        }
    }

    private static void addEqual(List<Call> all) {
        for (int span : new int[] {LEAST, -1, 0, 1, 2, 12, 13, MOST}) {
            for (int gap : new int[] {LEAST, -1, 0, 1, 6, 7, MOST}) {
                boolean isInRange = isFrom(span, 1, 12) && isFrom(gap, 0, 6);
                all.add(new Call("setEqual(" + span + ", " + gap + ")", due(true, isInRange, true), x -> {
                    x.setEqual(span, gap);
                    return 0;
                }));
            }
        }
    }

    private static void addShift(List<Call> all, Scene scene) {
        for (int worker : new int[] {-1, 0, 5, 6, MOST}) {
            for (int site : new int[] {LEAST, -1, 0, 3, 4}) {
                for (int day : new int[] {-1, 0, 139, 140}) {
                    for (int hours : new int[] {0, 1, 16, 17, MOST}) {
                        boolean isThere = isOneOf(worker, 6) && isOneOf(site, 4);
                        boolean isInRange = isFrom(day, 0, 139) && isFrom(hours, 1, 16);
                        boolean isAllowed = scene.hasRoom(worker, day, hours);
                        all.add(new Call("shift(" + worker + ", " + site + ", " + day + ", " + hours + ")",
                                due(isThere, isInRange, isAllowed), x -> x.shift(worker, site, day, hours)));
                    }
                }
            }
        }
    }

    private static void addCorrect(List<Call> all, Scene scene) {
        int end = scene.shifts();
        for (int shift : new int[] {LEAST, -1, 0, 1, 2, 3, 4, 5, end - 1, end, end + 1, 79, 80, MOST}) {
            for (int hours : new int[] {LEAST, -1, 0, 4, 5, 7, 8, 9, 15, 16, 17, MOST}) {
                boolean isThere = isOneOf(shift, end);
                boolean isAllowed = isThere && scene.canCorrect(shift, hours);
                all.add(new Call("correct(" + shift + ", " + hours + ")",
                        due(isThere, isFrom(hours, 0, 16), isAllowed), x -> x.correct(shift, hours)));
            }
        }
    }

    private static void addTakeHoliday(List<Call> all, Scene scene) {
        for (int worker : new int[] {LEAST, -1, 0, 1, 2, 3, 4, 5, 6, MOST}) {
            boolean isThere = isOneOf(worker, 6);
            int left = isThere ? scene.minutesLeft(worker) : 0;
            for (int minutes : new int[] {LEAST, -1, 0, 1, left, left + 1, 10000, 10001, MOST}) {
                all.add(new Call("takeHoliday(" + worker + ", " + minutes + ")",
                        due(isThere, isFrom(minutes, 1, 10000), minutes <= left),
                        x -> x.takeHoliday(worker, minutes)));
            }
        }
    }

    private static void addQuestions(List<Call> all, Scene scene) {
        int[] numbers = {LEAST, -1, 0, 3, 4, 5, 6, 19, 20, scene.shifts() - 1, scene.shifts(), MOST};
        for (int a : numbers) {
            addOfShift(all, a, due(isOneOf(a, scene.shifts()), true, true));
            all.add(new Call("run(" + a + ")", due(isOneOf(a, 20), true, true), x -> x.run(a)));
            all.add(new Call("holiday(" + a + ")", due(isOneOf(a, 6), true, true), x -> x.holiday(a)));
            for (int week : numbers) {
                addOfWorker(all, a, week, due(isOneOf(a, 6) && isOneOf(week, 20), true, true));
                addOfSite(all, a, week, due(isOneOf(a, 4) && isOneOf(week, 20), true, true));
            }
        }
    }

    private static void addOfShift(List<Call> all, int shift, String due) {
        all.add(new Call("overtime(" + shift + ")", due, x -> x.overtime(shift)));
        all.add(new Call("payOf(" + shift + ")", due, x -> x.payOf(shift)));
        all.add(new Call("chargeOf(" + shift + ")", due, x -> x.chargeOf(shift)));
    }

    private static void addOfWorker(List<Call> all, int worker, int week, String due) {
        String with = "(" + worker + ", " + week + ")";
        all.add(new Call("hours" + with, due, x -> x.hours(worker, week)));
        all.add(new Call("pay" + with, due, x -> x.pay(worker, week)));
        all.add(new Call("payByHours" + with, due, x -> x.payByHours(worker, week)));
        all.add(new Call("paid" + with, due, x -> x.paid(worker, week)));
        all.add(new Call("owing" + with, due, x -> x.owing(worker, week)));
    }

    private static void addOfSite(List<Call> all, int site, int week, String due) {
        String with = "(" + site + ", " + week + ")";
        all.add(new Call("billed" + with, due, x -> x.billed(site, week)));
        all.add(new Call("toBill" + with, due, x -> x.toBill(site, week)));
        for (int worker : new int[] {-1, 0, 5, 6}) {
            String dueHere = isOneOf(worker, 6) ? due : NO_SUCH;
            all.add(new Call("hasEqual of " + worker + with, dueHere, x -> x.hasEqual(worker, site, week) ? 1 : 0));
        }
    }
}
