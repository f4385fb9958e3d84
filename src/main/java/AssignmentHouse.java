/**
 * A biller of temporary staff: shifts at sites, overtime, equal pay, charges by margins, holidays,
 * and weeks that are run again after a sheet was put right.
 *
 * <p>Only the shifts are kept; hours, pay and charges are found from them whenever they are asked,
 * so that a correction or a new rate counts at once and a run pays and bills the difference alone.
 */
public final class AssignmentHouse {
    private static final int WORKERS = 6;
    private static final int SITES = 4;
    private static final int WEEKS = 20;
    private static final int DAYS_OF_WEEK = 7;
    private static final int DAYS = WEEKS * DAYS_OF_WEEK;
    private static final int MOST_SHIFTS = 80;

    private static final int MOST_SHIFT_HOURS = 16;
    private static final int MOST_DAY_HOURS = 24;
    private static final int PLAIN_DAY_HOURS = 8;
    private static final int PLAIN_WEEK_HOURS = 40;
    private static final int PLAIN_HALVES = 2;
    private static final int OVERTIME_HALVES = 3;

    private static final int FIRST_RATE = 1000;
    private static final int FIRST_EQUAL_RATE = 1200;
    private static final int MOST_RATE = 10000;
    private static final int FIRST_MARGIN = 20;
    private static final int FIRST_LOW_MARGIN = 10;
    private static final int MOST_MARGIN = 100;
    private static final int FIRST_VOLUME = 100;
    private static final int MOST_VOLUME = 1000;
    private static final int FIRST_SPAN = 4;
    private static final int MOST_SPAN = 12;
    private static final int FIRST_GAP = 2;
    private static final int MOST_GAP = 6;
    private static final int HOLIDAY_BY_HOUR = 7;
    private static final int MOST_MINUTES = 10000;

    private final int[] plainRate = new int[SITES];
    private final int[] equalRate = new int[SITES];
    private final int[] highMargin = new int[SITES];
    private final int[] lowMargin = new int[SITES];
    private final int[] lowVolume = new int[SITES];
    private int equalSpan = FIRST_SPAN;
    private int equalGap = FIRST_GAP;

    private int shiftCount = 0;
    private final int[] workerOf = new int[MOST_SHIFTS];
    private final int[] siteOf = new int[MOST_SHIFTS];
    private final int[] dayOf = new int[MOST_SHIFTS];
    private final int[] hoursOf = new int[MOST_SHIFTS];

    private final int[] paidFor = new int[WORKERS * WEEKS];
    private final int[] billedFor = new int[SITES * WEEKS];
    private final int[] minutesTaken = new int[WORKERS];

    // Made once and filled anew for each question, so that no call makes a row of its own.
    private final int[] aheadOnDay = new int[DAYS_OF_WEEK];

    public AssignmentHouse() {
        for (int site = 0; site < SITES; site++) {
            put(plainRate, site, FIRST_RATE);
            put(equalRate, site, FIRST_EQUAL_RATE);
            put(highMargin, site, FIRST_MARGIN);
            put(lowMargin, site, FIRST_LOW_MARGIN);
            put(lowVolume, site, FIRST_VOLUME);
        }
    }

    // ---- sites, rules, shifts

    public void setRates(int site, int rate, int equal)
            throws IndexOutOfBoundsException, IllegalArgumentException {
        needOneOf(site, SITES);
        needRange(rate, 1, MOST_RATE);
        needRange(equal, rate, MOST_RATE);
        put(plainRate, site, rate);
        put(equalRate, site, equal);
    }

    public void setMargins(int site, int margin, int low, int volume)
            throws IndexOutOfBoundsException, IllegalArgumentException {
        needOneOf(site, SITES);
        needRange(margin, 0, MOST_MARGIN);
        needRange(low, 0, margin);
        needRange(volume, 1, MOST_VOLUME);
        put(highMargin, site, margin);
        put(lowMargin, site, low);
        put(lowVolume, site, volume);
    }

    public void setEqual(int span, int gap) throws IllegalArgumentException {
        needRange(span, 1, MOST_SPAN);
        needRange(gap, 0, MOST_GAP);
        equalSpan = span;
        equalGap = gap;
    }

    public int shift(int worker, int site, int day, int hours)
            throws IndexOutOfBoundsException, IllegalArgumentException, IllegalStateException {
        needOneOf(worker, WORKERS);
        needOneOf(site, SITES);
        needRange(day, 0, DAYS - 1);
        needRange(hours, 1, MOST_SHIFT_HOURS);
        needState(shiftCount < MOST_SHIFTS);
        needState(hoursOnDay(worker, day) + hours <= MOST_DAY_HOURS);
        int number = shiftCount;
        put(workerOf, number, worker);
        put(siteOf, number, site);
        put(dayOf, number, day);
        put(hoursOf, number, hours);
        shiftCount = number + 1;
        return number;
    }

    public int correct(int shift, int hours)
            throws IndexOutOfBoundsException, IllegalArgumentException, IllegalStateException {
        needOneOf(shift, shiftCount);
        needRange(hours, 0, MOST_SHIFT_HOURS);
        int worker = at(workerOf, shift);
        int before = at(hoursOf, shift);
        int more = hours - before;
        needState(hoursOnDay(worker, at(dayOf, shift)) + more <= MOST_DAY_HOURS);
        needState(minutesLeft(worker) + HOLIDAY_BY_HOUR * more >= 0);
        put(hoursOf, shift, hours);
        return before;
    }

    public int shifts() {
        return shiftCount;
    }

    // ---- hours and pay

    public int hours(int worker, int week) throws IndexOutOfBoundsException {
        needOneOf(worker, WORKERS);
        needOneOf(week, WEEKS);
        int sum = 0;
        for (int i = 0; i < shiftCount; i++) {
            if (isOfWorker(i, worker, week)) {
                sum += at(hoursOf, i);
            }
        }
        return sum;
    }

    public int overtime(int shift) throws IndexOutOfBoundsException {
        needOneOf(shift, shiftCount);
        return overtimeHours(shift);
    }

    public boolean hasEqual(int worker, int site, int week) throws IndexOutOfBoundsException {
        needOneOf(worker, WORKERS);
        needOneOf(site, SITES);
        needOneOf(week, WEEKS);
        return isEqual(worker, site, week);
    }

    public int payOf(int shift) throws IndexOutOfBoundsException {
        needOneOf(shift, shiftCount);
        return shiftPay(shift);
    }

    public int chargeOf(int shift) throws IndexOutOfBoundsException {
        needOneOf(shift, shiftCount);
        int margin = marginAt(at(siteOf, shift), weekOf(at(dayOf, shift)));
        return chargeFor(shiftPay(shift), margin);
    }

    public int pay(int worker, int week) throws IndexOutOfBoundsException {
        needOneOf(worker, WORKERS);
        needOneOf(week, WEEKS);
        return weekPay(worker, week);
    }

    public int payByHours(int worker, int week) throws IndexOutOfBoundsException {
        needOneOf(worker, WORKERS);
        needOneOf(week, WEEKS);
        int sum = 0;
        int plainInWeek = 0;
        for (int dayOfWeek = 0; dayOfWeek < DAYS_OF_WEEK; dayOfWeek++) {
            int day = week * DAYS_OF_WEEK + dayOfWeek;
            int onDay = 0;
            for (int i = 0; i < shiftCount; i++) {
                if (at(workerOf, i) == worker && at(dayOf, i) == day) {
                    int rate = rateThere(worker, at(siteOf, i), week);
                    int shiftHours = at(hoursOf, i);
                    int halves = 0;
                    for (int hour = 0; hour < shiftHours; hour++) {
                        if (onDay >= PLAIN_DAY_HOURS || plainInWeek >= PLAIN_WEEK_HOURS) {
                            halves += OVERTIME_HALVES * rate;
                        } else {
                            halves += PLAIN_HALVES * rate;
                            plainInWeek++;
                        }
                        onDay++;
                    }
                    sum += halves / 2;
                }
            }
        }
        return sum;
    }

    // ---- running weeks

    public int run(int week) throws IndexOutOfBoundsException {
        needOneOf(week, WEEKS);
        int together = 0;
        for (int worker = 0; worker < WORKERS; worker++) {
            int due = weekPay(worker, week);
            int cell = worker * WEEKS + week;
            together += due - at(paidFor, cell);
            put(paidFor, cell, due);
        }
        for (int site = 0; site < SITES; site++) {
            put(billedFor, site * WEEKS + week, weekCharge(site, week));
        }
        return together;
    }

    public int paid(int worker, int week) throws IndexOutOfBoundsException {
        needOneOf(worker, WORKERS);
        needOneOf(week, WEEKS);
        return at(paidFor, worker * WEEKS + week);
    }

    public int billed(int site, int week) throws IndexOutOfBoundsException {
        needOneOf(site, SITES);
        needOneOf(week, WEEKS);
        return at(billedFor, site * WEEKS + week);
    }

    public int owing(int worker, int week) throws IndexOutOfBoundsException {
        needOneOf(worker, WORKERS);
        needOneOf(week, WEEKS);
        return weekPay(worker, week) - at(paidFor, worker * WEEKS + week);
    }

    public int toBill(int site, int week) throws IndexOutOfBoundsException {
        needOneOf(site, SITES);
        needOneOf(week, WEEKS);
        return weekCharge(site, week) - at(billedFor, site * WEEKS + week);
    }

    // ---- holidays

    public int takeHoliday(int worker, int minutes)
            throws IndexOutOfBoundsException, IllegalArgumentException, IllegalStateException {
        needOneOf(worker, WORKERS);
        needRange(minutes, 1, MOST_MINUTES);
        int left = minutesLeft(worker);
        needState(minutes <= left);
        put(minutesTaken, worker, at(minutesTaken, worker) + minutes);
        return left - minutes;
    }

    public int holiday(int worker) throws IndexOutOfBoundsException {
        needOneOf(worker, WORKERS);
        return minutesLeft(worker);
    }

    // Hours of shifts

    private static int weekOf(int day) {
        return day / DAYS_OF_WEEK;
    }

    private boolean isOfWorker(int shift, int worker, int week) {
        return at(workerOf, shift) == worker && weekOf(at(dayOf, shift)) == week;
    }

    private boolean isAtSite(int shift, int site, int week) {
        return at(siteOf, shift) == site && weekOf(at(dayOf, shift)) == week;
    }

    private int hoursOnDay(int worker, int day) {
        int sum = 0;
        for (int i = 0; i < shiftCount; i++) {
            if (at(workerOf, i) == worker && at(dayOf, i) == day) {
                sum += at(hoursOf, i);
            }
        }
        return sum;
    }

    private int hoursAtSite(int site, int week) {
        int sum = 0;
        for (int i = 0; i < shiftCount; i++) {
            if (isAtSite(i, site, week)) {
                sum += at(hoursOf, i);
            }
        }
        return sum;
    }

    private int minutesLeft(int worker) {
        int hoursEver = 0;
        for (int i = 0; i < shiftCount; i++) {
            if (at(workerOf, i) == worker) {
                hoursEver += at(hoursOf, i);
            }
        }
        return HOLIDAY_BY_HOUR * hoursEver - at(minutesTaken, worker);
    }

    // Overtime

    private int overtimeHours(int shift) {
        fillAheadOnDay(shift);
        int own = at(hoursOf, shift);
        int sameDay = at(aheadOnDay, at(dayOf, shift) % DAYS_OF_WEEK);
        int plainByDay = plainOfDay(sameDay + own) - plainOfDay(sameDay);
        int plainByWeek = Math.max(0, PLAIN_WEEK_HOURS - plainByDayAhead());
        return own - Math.min(plainByDay, plainByWeek);
    }

    private void fillAheadOnDay(int shift) {
        int worker = at(workerOf, shift);
        int day = at(dayOf, shift);
        int week = weekOf(day);
        for (int i = 0; i < DAYS_OF_WEEK; i++) {
            put(aheadOnDay, i, 0);
        }
        for (int i = 0; i < shiftCount; i++) {
            int other = at(dayOf, i);
            boolean isAhead = other < day || (other == day && i < shift);
            if (isAhead && isOfWorker(i, worker, week)) {
                int cell = other % DAYS_OF_WEEK;
                put(aheadOnDay, cell, at(aheadOnDay, cell) + at(hoursOf, i));
            }
        }
    }

    // May pass the limit of the week: the hours above it were overtime, and leave no room either way.
    private int plainByDayAhead() {
        int sum = 0;
        for (int i = 0; i < DAYS_OF_WEEK; i++) {
            sum += plainOfDay(at(aheadOnDay, i));
        }
        return sum;
    }

    private static int plainOfDay(int hoursOfDay) {
        return Math.min(PLAIN_DAY_HOURS, hoursOfDay);
    }

    // Equal pay

    private boolean isEqual(int worker, int site, int week) {
        int weeks = weeksWorked(worker, site);
        int worked = 0;
        int idle = 0;
        for (int back = week - 1; back >= 0 && idle <= equalGap; back--) {
            if (((weeks >> back) & 1) == 1) {
                worked++;
                idle = 0;
            } else {
                idle++;
            }
        }
        return worked >= equalSpan;
    }

    // A bit for each week, so that going back week by week needs one pass over the shifts, not twenty.
    private int weeksWorked(int worker, int site) {
        int weeks = 0;
        for (int i = 0; i < shiftCount; i++) {
            if (at(workerOf, i) == worker && at(siteOf, i) == site && at(hoursOf, i) >= 1) {
                weeks |= 1 << weekOf(at(dayOf, i));
            }
        }
        return weeks;
    }

    private int rateThere(int worker, int site, int week) {
        return isEqual(worker, site, week) ? at(equalRate, site) : at(plainRate, site);
    }

    // Pay and charges

    private int shiftPay(int shift) {
        int over = overtimeHours(shift);
        int plain = at(hoursOf, shift) - over;
        int rate = rateThere(at(workerOf, shift), at(siteOf, shift), weekOf(at(dayOf, shift)));
        return (PLAIN_HALVES * plain + OVERTIME_HALVES * over) * rate / 2;
    }

    private int weekPay(int worker, int week) {
        int sum = 0;
        for (int i = 0; i < shiftCount; i++) {
            if (isOfWorker(i, worker, week)) {
                sum += shiftPay(i);
            }
        }
        return sum;
    }

    private int marginAt(int site, int week) {
        boolean isLow = hoursAtSite(site, week) >= at(lowVolume, site);
        return isLow ? at(lowMargin, site) : at(highMargin, site);
    }

    private static int chargeFor(int pay, int margin) {
        return pay * (100 + margin) / 100;
    }

    private int weekCharge(int site, int week) {
        int margin = marginAt(site, week);
        int sum = 0;
        for (int i = 0; i < shiftCount; i++) {
            if (isAtSite(i, site, week)) {
                sum += chargeFor(shiftPay(i), margin);
            }
        }
        return sum;
    }

    // What a call needs

    private static void needOneOf(int number, int end) {
        if (number < 0 || number >= end) {
            throw new IndexOutOfBoundsException("there is no such worker, site, shift or week");
        }
    }

    private static void needRange(int value, int least, int most) {
        if (value < least || value > most) {
            throw new IllegalArgumentException("an argument is out of range");
        }
    }

    private static void needState(boolean isAllowed) {
        if (!isAllowed) {
            throw new IllegalStateException("the shifts and holidays so far do not allow this");
        }
    }

    // Every row is read and written by these two alone, so that no index is used before it is tested.

    private static int at(int[] row, int index) {
        return index >= 0 && index < row.length ? row[index] : 0;
    }

    private static void put(int[] row, int index, int value) {
        if (index >= 0 && index < row.length) {
            row[index] = value;
        }
    }
}
