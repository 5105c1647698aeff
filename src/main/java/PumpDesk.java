/**
 * A pump for insulin: what a meal and a reading want by the hour of the day, what is still at work
 * from before, limits for a dose and for a day, and a pump that is held when readings are low.
 *
 * <p>Doses and flow are in thousandths of a unit (parts), time is in minutes from 0.
 */
public final class PumpDesk {
    public static final int NONE = -1;

    private static final int MINUTES_OF_DAY = 1440;
    private static final int LAST_MINUTE = 100000;
    private static final int LONGEST_STEP = 2880;
    private static final int DAYS = 70;

    private static final int GRAMS_FOR_UNIT = 0;
    private static final int LOWERED_BY_UNIT = 1;
    private static final int LEAST_AIM = 2;
    private static final int GREATEST_AIM = 3;
    private static final int FLOW_OF_HOUR = 4;
    private static final int KINDS = 5;
    private static final int[] VALUES_WITHOUT_SLOTS = {10, 50, 100, 120, 0};
    private static final int MOST_SLOTS = 8;
    private static final int MOST_VALUE = 1000;
    private static final int MOST_FLOW = 20000;

    private static final int WHOLE_SHARE = 1000;
    private static final int LAST_SHARE = 32;
    private static final int SHARE_STEP = 40;
    private static final int MINUTES_OF_SHARE = 15;

    private static final int PARTS_OF_UNIT = 1000;
    private static final int PARTS_STEP = 50;
    private static final int SIXTIETHS = 60;
    private static final int MOST_CARBS = 1000;
    private static final int MOST_READING = 1000;
    private static final int FRESH_MINUTES = 15;
    private static final int MOST_DOSES = 200;

    private static final int NOT_LESS = 0;
    private static final int LESS_BY_DOSE = 1;
    private static final int LESS_BY_DAY = 2;
    private static final int LESS_BY_HOLD = 3;

    private final Slots[] profile = new Slots[KINDS];
    private final int[] shares = new int[LAST_SHARE + 1];
    private final Dose[] given = new Dose[MOST_DOSES];
    private final int[] flowOfDay = new int[DAYS];
    private final int[] dosesOfDay = new int[DAYS];
    private int givenCount = 0;
    private int now = 0;
    private int carried = 0;
    private int greatestDose = 10000;
    private int greatestDay = 50000;
    private int threshold = 70;
    private int ticksToGoOn = 2;
    private boolean held = false;
    private int ticks = 0;
    private int lastValue = NONE;
    private int lastMinute = NONE;

    public PumpDesk() {
        for (int kind = 0; kind < KINDS; kind++) {
            profile[kind] = new Slots(VALUES_WITHOUT_SLOTS[kind]);
        }
        for (int k = 0; k <= LAST_SHARE; k++) {
            shares[k] = Math.max(0, WHOLE_SHARE - SHARE_STEP * k);
        }
    }

    public boolean slot(int kind, int start, int value) {
        if (!isKind(kind) || !isMinuteOfDay(start)) {
            return false;
        }
        boolean fits = kind == FLOW_OF_HOUR
                ? isWithin(value, 0, MOST_FLOW)
                : isWithin(value, 1, MOST_VALUE);
        return fits && profile[kind].put(start, value);
    }

    public int value(int kind, int minute) {
        if (!isKind(kind) || !isMinuteOfDay(minute)) {
            return NONE;
        }
        return profile[kind].valueAt(minute);
    }

    public boolean decay(int k, int share) {
        if (!isWithin(k, 0, LAST_SHARE)) {
            return false;
        }
        int most = k == 0 ? WHOLE_SHARE : shares[k - 1];
        int least = k == LAST_SHARE ? 0 : shares[k + 1];
        if (!isWithin(share, least, most)) {
            return false;
        }
        shares[k] = share;
        return true;
    }

    public boolean limits(int dose, int day, int threshold, int ticks) {
        if (!isWithin(dose, 0, 100000) || !isWithin(day, 0, 1000000)
                || !isWithin(threshold, 1, 400) || !isWithin(ticks, 1, 20)) {
            return false;
        }
        greatestDose = dose;
        greatestDay = day;
        this.threshold = threshold;
        ticksToGoOn = ticks;
        return true;
    }

    public int reading(int minute, int g) {
        if (!canGoOnTo(minute) || !isWithin(g, 1, MOST_READING)) {
            return NONE;
        }
        goOnTo(minute);
        lastValue = g;
        lastMinute = minute;
        if (g <= threshold) {
            hold();
        } else if (held) {
            countTick();
        }
        return held ? 1 : 0;
    }

    public int ask(int minute, int carbs) {
        if (!canGoOnTo(minute) || !isWithin(carbs, 0, MOST_CARBS)) {
            return NONE;
        }
        goOnTo(minute);
        return wantedNow(carbs).parts;
    }

    public int give(int minute, int carbs) {
        if (!canGoOnTo(minute) || !isWithin(carbs, 0, MOST_CARBS) || givenCount >= MOST_DOSES) {
            return NONE;
        }
        goOnTo(minute);
        Dose wanted = wantedNow(carbs);
        given[givenCount] = wanted;
        givenCount++;
        dosesOfDay[now / MINUTES_OF_DAY] += wanted.parts;
        return wanted.parts;
    }

    public int now() {
        return now;
    }

    public long work() {
        return atWorkNow();
    }

    public int spent(int day, int what) {
        if (!isWithin(day, 0, DAYS - 1)) {
            return NONE;
        }
        switch (what) {
            case 0: return flowOfDay[day];
            case 1: return dosesOfDay[day];
            case 2: return bothOfDay(day);
            default: return NONE;
        }
    }

    public boolean held() {
        return held;
    }

    public int ticks() {
        return ticks;
    }

    public int dose(int k, int what) {
        Dose dose = isWithin(k, 0, MOST_DOSES - 1) ? given[k] : null;
        if (dose == null) {
            return NONE;
        }
        switch (what) {
            case 0: return dose.minute;
            case 1: return dose.parts;
            case 2: return dose.meal;
            case 3: return dose.correction;
            case 4: return dose.atWork;
            case 5: return dose.why;
            default: return NONE;
        }
    }

    public int doses() {
        return givenCount;
    }

    public int last(int what) {
        switch (what) {
            case 0: return lastValue;
            case 1: return lastMinute;
            default: return NONE;
        }
    }

    private static boolean isWithin(int number, int least, int most) {
        return number >= least && number <= most;
    }

    private static boolean isKind(int kind) {
        return isWithin(kind, 0, KINDS - 1);
    }

    private static boolean isMinuteOfDay(int minute) {
        return isWithin(minute, 0, MINUTES_OF_DAY - 1);
    }

    /**
     * Rounded down, so a negative amount is rounded away from 0, as the document asks below the
     * least aim. No value is below 1 here, but a divisor is looked at where it divides.
     */
    private static int partsFor(int amount, int ofUnit) {
        return ofUnit < 1 ? 0 : Math.floorDiv(amount * PARTS_OF_UNIT, ofUnit);
    }

    private boolean canGoOnTo(int minute) {
        return isWithin(minute, now, Math.min(LAST_MINUTE, now + LONGEST_STEP));
    }

    /** Only a reading holds the pump or lets it go on, so the whole way is held or none of it. */
    private void goOnTo(int minute) {
        if (!held) {
            flowUpTo(minute);
        }
        now = minute;
    }

    private void flowUpTo(int minute) {
        for (int day = now / MINUTES_OF_DAY; day <= minute / MINUTES_OF_DAY; day++) {
            int midnight = day * MINUTES_OF_DAY;
            int from = Math.max(0, now - midnight);
            int to = Math.min(MINUTES_OF_DAY, minute - midnight);
            flowWithin(day, from, to);
        }
    }

    private void flowWithin(int day, int from, int to) {
        Slots flow = profile[FLOW_OF_HOUR];
        for (int span = 0; span <= flow.count; span++) {
            int begin = Math.max(from, flow.beginOfSpan(span));
            int end = Math.min(to, flow.endOfSpan(span));
            if (begin < end) {
                flowFor(end - begin, flow.valueOfSpan(span), day);
            }
        }
    }

    /**
     * Adding the minutes' sixtieths at once flows the same parts and carries the same rest as one
     * minute after the other, as long as they have one rate and one day.
     */
    private void flowFor(int minutes, int partsOfHour, int day) {
        int sixtieths = carried + minutes * partsOfHour;
        flowOfDay[day] += sixtieths / SIXTIETHS;
        carried = sixtieths % SIXTIETHS;
    }

    private void hold() {
        held = true;
        ticks = 0;
    }

    /** The ticks may already be beyond what is needed, when limits() has lowered that. */
    private void countTick() {
        ticks++;
        if (ticks >= ticksToGoOn) {
            held = false;
            ticks = 0;
        }
    }

    private int valueNow(int kind) {
        return profile[kind].valueAt(now % MINUTES_OF_DAY);
    }

    private int bothOfDay(int day) {
        return flowOfDay[day] + dosesOfDay[day];
    }

    private int atWorkNow() {
        int sum = 0;
        for (int k = 0; k < MOST_DOSES && given[k] != null; k++) {
            sum += atWorkNowOf(given[k]);
        }
        return sum;
    }

    private int atWorkNowOf(Dose dose) {
        int k = (now - dose.minute) / MINUTES_OF_SHARE;
        return isWithin(k, 0, LAST_SHARE) ? dose.parts * shares[k] / WHOLE_SHARE : 0;
    }

    private Dose wantedNow(int carbs) {
        int meal = partsFor(carbs, valueNow(GRAMS_FOR_UNIT));
        int atWork = atWorkNow();
        int correction = correctionNow(atWork);
        int whole = Math.max(0, meal + correction);
        int withinDose = Math.min(whole, greatestDose);
        int withinDay = Math.min(withinDose, leftOfToday());
        int parts = held ? 0 : withinDay - withinDay % PARTS_STEP;
        int why = whyLess(whole, withinDose, withinDay);
        return new Dose(now, parts, meal, correction, atWork, why);
    }

    private int correctionNow(int atWork) {
        if (!hasFreshReading()) {
            return 0;
        }
        int above = lastValue - valueNow(GREATEST_AIM);
        int below = valueNow(LEAST_AIM) - lastValue;
        int lowered = valueNow(LOWERED_BY_UNIT);
        // The least aim may stand above the greatest one: the document asks for "above" first.
        if (above > 0) {
            return Math.max(0, partsFor(above, lowered) - atWork);
        }
        return below > 0 ? partsFor(-below, lowered) : 0;
    }

    private boolean hasFreshReading() {
        return lastValue != NONE && now - lastMinute <= FRESH_MINUTES;
    }

    private int leftOfToday() {
        return Math.max(0, greatestDay - bothOfDay(now / MINUTES_OF_DAY));
    }

    /** Where nothing was wanted a held pump took nothing away, so it is no reason there. */
    private int whyLess(int whole, int withinDose, int withinDay) {
        if (held && whole > 0) {
            return LESS_BY_HOLD;
        }
        if (withinDay < withinDose) {
            return LESS_BY_DAY;
        }
        return withinDose < whole ? LESS_BY_DOSE : NOT_LESS;
    }

    private record Dose(int minute, int parts, int meal, int correction, int atWork, int why) {
    }

    /**
     * The slots of one kind, by their beginnings. They cut the day into spans: span 0 from midnight
     * to the first slot, span s from slot s - 1 to the next one or to midnight.
     */
    private static final class Slots {
        private final int[] starts = new int[MOST_SLOTS];
        private final int[] values = new int[MOST_SLOTS];
        private final int valueWithout;
        private int count = 0;

        private Slots(int valueWithout) {
            this.valueWithout = valueWithout;
        }

        private boolean put(int start, int value) {
            int span = spanAt(start);
            if (span > 0 && starts[span - 1] == start) {
                values[span - 1] = value;
                return true;
            }
            if (count >= MOST_SLOTS) {
                return false;
            }
            for (int k = count; k > span; k--) {
                starts[k] = starts[k - 1];
                values[k] = values[k - 1];
            }
            starts[span] = start;
            values[span] = value;
            count++;
            return true;
        }

        private int valueAt(int minute) {
            return valueOfSpan(spanAt(minute));
        }

        private int spanAt(int minute) {
            int span = 0;
            while (span < count && starts[span] <= minute) {
                span++;
            }
            return span;
        }

        private int beginOfSpan(int span) {
            return span == 0 ? 0 : starts[span - 1];
        }

        private int endOfSpan(int span) {
            return span == count ? MINUTES_OF_DAY : starts[span];
        }

        private int valueOfSpan(int span) {
            if (count == 0) {
                return valueWithout;
            }
            return span == 0 ? values[count - 1] : values[span - 1];
        }
    }
}
