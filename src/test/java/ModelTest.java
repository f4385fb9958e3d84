import java.util.ArrayList;
import java.util.HashMap;
import java.util.HashSet;
import java.util.List;
import java.util.Map;
import java.util.Set;

/**
 * Runs of 512 calls each, the same ones at every time, on the program and on a model that takes the
 * document's words one after the other: every hour is an object of its own.
 */
public final class ModelTest {
    private static final int RUNS = 600;
    private static final int CALLS = 512;
    private static final Check CHECK = new Check("ModelTest");

    private long seed;
    private final AssignmentHouse house = new AssignmentHouse();
    private final Model model = new Model();
    private final int workers;
    private final int sites;
    private final int days;
    private final int tellEvery;

    private ModelTest(int run) {
        seed = 977L * run + 13;
        workers = 1 + run % 6;
        sites = 1 + run / 6 % 4;
        int[] spans = {7, 14, 35, 70, 140};
        days = spans[run / 24 % 5];
        tellEvery = 3 + run % 4;
    }

    public static void main(String[] args) {
        for (int run = 0; run < RUNS; run++) {
            new ModelTest(run).play(run);
        }
        CHECK.end();
    }

    private void play(int run) {
        for (int call = 0; call < CALLS; call++) {
            Call next = next();
            String got = answer(() -> next.on(house));
            String due = answer(() -> next.on(model));
            CHECK.same("run " + run + ", call " + call + ", " + next.text(), got, due);
        }
    }

    private static String answer(Asked asked) {
        try {
            return Long.toString(asked.answer());
        } catch (RuntimeException e) {
            return e.getClass().getName();
        }
    }

    private interface Asked {
        long answer();
    }

    private int draw(int end) {
        seed = seed * 6364136223846793005L + 1442695040888963407L;
        return (int) ((seed >>> 33) % end);
    }

    /** Mostly a number below the end, now and then one beside it or far off. */
    private int number(int end, int realEnd) {
        int kind = draw(60);
        if (kind == 0) {
            return -1 - draw(2);
        }
        if (kind == 1) {
            return realEnd + draw(2);
        }
        if (kind == 2) {
            return draw(2) == 0 ? Integer.MAX_VALUE : Integer.MIN_VALUE;
        }
        return end < 1 ? 0 : draw(end);
    }

    private int between(int least, int most) {
        return least + number(most - least + 1, most - least + 1);
    }

    private Call next() {
        int worker = number(workers, 6);
        int site = number(sites, 4);
        int day = number(days, 140);
        int week = number(Math.min(20, days / 7 + 2), 20);
        int shift = number(model.told.size(), model.told.size());
        if (draw(tellEvery) == 0) {
            int most = draw(3) == 0 ? 16 : 9;
            return new Call("shift", worker, site, day, between(1, most));
        }
        switch (draw(22)) {
            case 0:
                int rate = between(1, draw(2) == 0 ? 3 : 10000);
                return new Call("setRates", site, rate, rate + draw(900) - 5, 0);
            case 1:
                int margin = between(0, 100);
                int volume = draw(4) == 0 ? between(1, 1000) : between(1, 60);
                return new Call("setMargins", site, margin, margin - draw(20) + 1, volume);
            case 2:
                return new Call("setEqual", draw(3) == 0 ? between(1, 12) : between(1, 4), between(0, 6), 0, 0);
            case 3:
            case 4:
                return new Call("correct", shift, between(0, 16), 0, 0);
            case 5:
                return new Call("shifts", 0, 0, 0, 0);
            case 6:
                return new Call("hours", worker, week, 0, 0);
            case 7:
            case 8:
                return new Call("overtime", shift, 0, 0, 0);
            case 9:
                return new Call("hasEqual", worker, site, week, 0);
            case 10:
                return new Call("payOf", shift, 0, 0, 0);
            case 11:
            case 12:
                return new Call("chargeOf", shift, 0, 0, 0);
            case 13:
                return new Call("pay", worker, week, 0, 0);
            case 14:
                return new Call("payByHours", worker, week, 0, 0);
            case 15:
                return new Call("run", week, 0, 0, 0);
            case 16:
                return new Call("paid", worker, week, 0, 0);
            case 17:
                return new Call("billed", site, week, 0, 0);
            case 18:
                return new Call("owing", worker, week, 0, 0);
            case 19:
                return new Call("toBill", site, week, 0, 0);
            case 20:
                return new Call("takeHoliday", worker, draw(4) == 0 ? between(1, 10000) : between(1, 90), 0, 0);
            default:
                return new Call("holiday", worker, 0, 0, 0);
        }
    }

    private record Call(String name, int a, int b, int c, int d) {
        String text() {
            return name + "(" + a + ", " + b + ", " + c + ", " + d + ")";
        }

        long on(AssignmentHouse x) {
            switch (name) {
                case "setRates":
                    x.setRates(a, b, c);
                    return 0;
                case "setMargins":
                    x.setMargins(a, b, c, d);
                    return 0;
                case "setEqual":
                    x.setEqual(a, b);
                    return 0;
                case "shift":
                    return x.shift(a, b, c, d);
                case "correct":
                    return x.correct(a, b);
                case "shifts":
                    return x.shifts();
                case "hours":
                    return x.hours(a, b);
                case "overtime":
                    return x.overtime(a);
                case "hasEqual":
                    return x.hasEqual(a, b, c) ? 1 : 0;
                case "payOf":
                    return x.payOf(a);
                case "chargeOf":
                    return x.chargeOf(a);
                case "pay":
                    return x.pay(a, b);
                case "payByHours":
                    return x.payByHours(a, b);
                case "run":
                    return x.run(a);
                case "paid":
                    return x.paid(a, b);
                case "billed":
                    return x.billed(a, b);
                case "owing":
                    return x.owing(a, b);
                case "toBill":
                    return x.toBill(a, b);
                case "takeHoliday":
                    return x.takeHoliday(a, b);
                case "holiday":
                    return x.holiday(a);
                default:
                    throw new UnsupportedOperationException(name);
            }
        }

        long on(Model x) {
            switch (name) {
                case "setRates":
                    return x.rates(a, b, c);
                case "setMargins":
                    return x.margins(a, b, c, d);
                case "setEqual":
                    return x.equalRule(a, b);
                case "shift":
                    return x.tell(a, b, c, d);
                case "correct":
                    return x.putRight(a, b);
                case "shifts":
                    return x.told.size();
                case "hours":
                    return Model.known(a, 6) + Model.known(b, 20) + x.hoursOfWeek(a, b).size();
                case "overtime":
                    return x.known(a).overtimeHours();
                case "hasEqual":
                    return Model.known(a, 6) + Model.known(b, 4) + Model.known(c, 20) + (x.equal(a, b, c) ? 1 : 0);
                case "payOf":
                    return x.payOf(x.known(a));
                case "chargeOf":
                    return x.chargeOf(x.known(a));
                case "pay":
                case "payByHours":
                    return Model.known(a, 6) + Model.known(b, 20) + x.payOfWorker(a, b);
                case "run":
                    return Model.known(a, 20) + x.runWeek(a);
                case "paid":
                    return Model.known(a, 6) + Model.known(b, 20) + x.paid.getOrDefault(a + " " + b, 0L);
                case "billed":
                    return Model.known(a, 4) + Model.known(b, 20) + x.billed.getOrDefault(a + " " + b, 0L);
                case "owing":
                    return Model.known(a, 6) + Model.known(b, 20) + x.payOfWorker(a, b)
                            - x.paid.getOrDefault(a + " " + b, 0L);
                case "toBill":
                    return Model.known(a, 4) + Model.known(b, 20) + x.chargeOfSite(a, b)
                            - x.billed.getOrDefault(a + " " + b, 0L);
                case "takeHoliday":
                    return x.take(a, b);
                case "holiday":
                    return Model.known(a, 6) + x.left(a);
                default:
                    throw new UnsupportedOperationException(name);
            }
        }
    }

    private static final class Shift {
        int worker;
        int site;
        int day;
        List<Hour> hours = new ArrayList<>();

        void setHours(int count) {
            hours = new ArrayList<>();
            for (int i = 0; i < count; i++) {
                hours.add(new Hour(this));
            }
        }

        long overtimeHours() {
            return hours.stream().filter(hour -> hour.over).count();
        }
    }

    private static final class Hour {
        final Shift shift;
        boolean over;

        Hour(Shift shift) {
            this.shift = shift;
        }
    }

    private static final class Model {
        final List<Shift> told = new ArrayList<>();
        final Map<String, Long> paid = new HashMap<>();
        final Map<String, Long> billed = new HashMap<>();
        final long[] taken = new long[6];
        final int[][] site = new int[4][];
        int span = 4;
        int gap = 2;

        Model() {
            for (int i = 0; i < 4; i++) {
                site[i] = new int[] {1000, 1200, 20, 10, 100};
            }
        }

        static int known(int number, int end) {
            if (!(0 <= number && number <= end - 1)) {
                throw new IndexOutOfBoundsException();
            }
            return 0;
        }

        Shift known(int number) {
            known(number, told.size());
            return told.get(number);
        }

        static void range(long value, long least, long most) {
            if (!(least <= value && value <= most)) {
                throw new IllegalArgumentException();
            }
        }

        static void state(boolean good) {
            if (!good) {
                throw new IllegalStateException();
            }
        }

        long rates(int at, int rate, int equal) {
            known(at, 4);
            range(rate, 1, 10000);
            range(equal, rate, 10000);
            site[at][0] = rate;
            site[at][1] = equal;
            return 0;
        }

        long margins(int at, int margin, int low, int volume) {
            known(at, 4);
            range(margin, 0, 100);
            range(low, 0, margin);
            range(volume, 1, 1000);
            site[at][2] = margin;
            site[at][3] = low;
            site[at][4] = volume;
            return 0;
        }

        long equalRule(int newSpan, int newGap) {
            range(newSpan, 1, 12);
            range(newGap, 0, 6);
            span = newSpan;
            gap = newGap;
            return 0;
        }

        long tell(int worker, int at, int day, int hours) {
            known(worker, 6);
            known(at, 4);
            range(day, 0, 139);
            range(hours, 1, 16);
            state(told.size() != 80);
            state(hoursOfDay(worker, day).size() + hours <= 24);
            Shift shift = new Shift();
            shift.worker = worker;
            shift.site = at;
            shift.day = day;
            shift.setHours(hours);
            told.add(shift);
            markOvertime();
            return told.size() - 1;
        }

        long putRight(int number, int hours) {
            Shift shift = known(number);
            range(hours, 0, 16);
            int before = shift.hours.size();
            shift.setHours(hours);
            boolean good = hoursOfDay(shift.worker, shift.day).size() <= 24 && left(shift.worker) >= 0;
            if (!good) {
                shift.setHours(before);
            }
            markOvertime();
            state(good);
            return before;
        }

        List<Hour> hoursOfDay(int worker, int day) {
            List<Hour> hours = new ArrayList<>();
            for (Shift shift : told) {
                if (shift.worker == worker && shift.day == day) {
                    hours.addAll(shift.hours);
                }
            }
            return hours;
        }

        List<Hour> hoursOfWeek(int worker, int week) {
            List<Hour> hours = new ArrayList<>();
            for (int day = week * 7; day <= week * 7 + 6; day++) {
                hours.addAll(hoursOfDay(worker, day));
            }
            return hours;
        }

        void markOvertime() {
            for (int worker = 0; worker < 6; worker++) {
                for (int week = 0; week < 20; week++) {
                    List<Hour> before = new ArrayList<>();
                    for (Hour hour : hoursOfWeek(worker, week)) {
                        long onDay = before.stream().filter(h -> h.shift.day == hour.shift.day).count();
                        long plain = before.stream().filter(h -> !h.over).count();
                        hour.over = onDay >= 8 || plain >= 40;
                        before.add(hour);
                    }
                }
            }
        }

        boolean equal(int worker, int at, int week) {
            Set<Integer> worked = new HashSet<>();
            for (Shift shift : told) {
                if (shift.worker == worker && shift.site == at && !shift.hours.isEmpty()) {
                    worked.add(shift.day / 7);
                }
            }
            int counted = 0;
            int last = week;
            for (int back = week - 1; back >= 0; back--) {
                if (last - back - 1 > gap) {
                    break;
                }
                if (worked.contains(back)) {
                    counted++;
                    last = back;
                }
            }
            return counted >= span;
        }

        long payOf(Shift shift) {
            long rate = site[shift.site][equal(shift.worker, shift.site, shift.day / 7) ? 1 : 0];
            long halves = 0;
            for (Hour hour : shift.hours) {
                halves += hour.over ? 3 * rate : 2 * rate;
            }
            return halves / 2;
        }

        long chargeOf(Shift shift) {
            long volume = 0;
            for (Shift other : told) {
                if (other.site == shift.site && other.day / 7 == shift.day / 7) {
                    volume += other.hours.size();
                }
            }
            int[] of = site[shift.site];
            return payOf(shift) * (100 + (volume >= of[4] ? of[3] : of[2])) / 100;
        }

        long payOfWorker(int worker, int week) {
            return told.stream().filter(s -> s.worker == worker && s.day / 7 == week).mapToLong(this::payOf).sum();
        }

        long chargeOfSite(int at, int week) {
            return told.stream().filter(s -> s.site == at && s.day / 7 == week).mapToLong(this::chargeOf).sum();
        }

        long runWeek(int week) {
            long together = 0;
            for (int worker = 0; worker < 6; worker++) {
                long due = payOfWorker(worker, week) - paid.getOrDefault(worker + " " + week, 0L);
                paid.merge(worker + " " + week, due, Long::sum);
                together += due;
            }
            for (int at = 0; at < 4; at++) {
                long due = chargeOfSite(at, week) - billed.getOrDefault(at + " " + week, 0L);
                billed.merge(at + " " + week, due, Long::sum);
            }
            return together;
        }

        long left(int worker) {
            long earned = 0;
            for (Shift shift : told) {
                earned += shift.worker == worker ? 7L * shift.hours.size() : 0;
            }
            return earned - taken[worker];
        }

        long take(int worker, int minutes) {
            known(worker, 6);
            range(minutes, 1, 10000);
            state(left(worker) >= minutes);
            taken[worker] += minutes;
            return left(worker);
        }
    }
}
