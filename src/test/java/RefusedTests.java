/**
 * For each sentence of the promises that refuses something: the last case that is let in, the first
 * that is refused, on both sides where there are two, and that a refused call changes nothing.
 */
public final class RefusedTests {
    private static final int NONE = PumpDesk.NONE;
    private static final int LOWEST = Integer.MIN_VALUE;
    private static final int HIGHEST = Integer.MAX_VALUE;
    private static final int NOW = Twins.NOW;
    private static final int LAST_MINUTE = 100000;
    private static final int LONGEST_STEP = 2880;

    /** The three calls by which time goes on, each with an argument beside the minute that is fine. */
    private interface Step {
        int to(PumpDesk desk, int minute);
    }

    private static final String[] STEP_NAMES = {"6: reading", "7: ask", "8: give"};
    private static final Step[] STEPS = {
        (desk, minute) -> desk.reading(minute, 60),
        (desk, minute) -> desk.ask(minute, 30),
        (desk, minute) -> desk.give(minute, 30)};

    public static void main(String[] args) {
        slotKindIsZeroToFour();
        slotStartIsAMinuteOfTheDay();
        slotValueIsOneToThousand();
        slotFlowIsZeroToTwentyThousand();
        slotNinthIsRefused();
        slotReplacesAmongEight();
        valueOfNoSuchKindOrMinute();
        decayShareNumberIsZeroTo32();
        decayShareIsZeroToThousand();
        decayNotAboveTheShareBefore();
        decayNotBelowTheShareBehind();
        limitsDose();
        limitsDay();
        limitsThreshold();
        limitsTicks();
        limitsRefusedAsAWhole();
        minuteNotBeforeNow();
        minuteNotMoreThan2880Behind();
        minuteNotAbove100000();
        readingIsOneToThousand();
        carbsAreZeroToThousand();
        giveAtMostTwoHundred();
        spentDayIsZeroTo69();
        spentWhatIsZeroToTwo();
        doseThatThereIs();
        doseWhatIsZeroToFive();
        lastWhatIsZeroOrOne();
        looksChangeNothing();
        Due.end();
    }

    private static long bit(boolean answer) {
        return answer ? 1 : 0;
    }

    // "False when kind is not 0 .. 4"
    private static void slotKindIsZeroToFour() {
        for (int kind = 0; kind <= 4; kind++) {
            PumpDesk desk = new PumpDesk();
            Due.is("2: kind " + kind, desk.slot(kind, 10, 33), true);
            Due.is("2: kind " + kind + " counts", desk.value(kind, 10), 33);
        }
        for (int kind : new int[] {-1, 5, LOWEST, HIGHEST}) {
            Twins.refuseFalse("2: kind " + kind, desk -> bit(desk.slot(kind, 10, 33)));
        }
    }

    // "or start not 0 .. 1439"
    private static void slotStartIsAMinuteOfTheDay() {
        for (int kind = 0; kind <= 4; kind++) {
            int ofKind = kind;
            PumpDesk desk = new PumpDesk();
            Due.is("2: start 0", desk.slot(kind, 0, 33), true);
            Due.is("2: start 1439", desk.slot(kind, 1439, 44), true);
            Due.is("2: start 0 counts", desk.value(kind, 0), 33);
            Due.is("2: start 0 counts up to 1438", desk.value(kind, 1438), 33);
            Due.is("2: start 1439 counts", desk.value(kind, 1439), 44);
            for (int start : new int[] {-1, 1440, LOWEST, HIGHEST}) {
                Twins.refuseFalse("2: start " + start, to -> bit(to.slot(ofKind, start, 33)));
            }
        }
    }

    // "or value not 1 .. 1000"
    private static void slotValueIsOneToThousand() {
        for (int kind = 0; kind <= 3; kind++) {
            int ofKind = kind;
            PumpDesk desk = new PumpDesk();
            Due.is("2: value 1", desk.slot(kind, 300, 1), true);
            Due.is("2: value 1 counts", desk.value(kind, 300), 1);
            Due.is("2: value 1000", desk.slot(kind, 300, 1000), true);
            Due.is("2: value 1000 counts", desk.value(kind, 300), 1000);
            for (int value : new int[] {0, -1, 1001, 20000, LOWEST, HIGHEST}) {
                Twins.refuseFalse("2: value " + value, to -> bit(to.slot(ofKind, 300, value)));
                Twins.refuseFalse("2: new value " + value, to -> bit(to.slot(ofKind, 0, value)));
            }
        }
    }

    // "(kind 4: 0 .. 20000)"
    private static void slotFlowIsZeroToTwentyThousand() {
        PumpDesk desk = new PumpDesk();
        Due.is("2: flow 20000", desk.slot(4, 300, 20000), true);
        Due.is("2: flow 20000 counts", desk.value(4, 300), 20000);
        Due.is("2: flow 0", desk.slot(4, 300, 0), true);
        Due.is("2: flow 0 counts", desk.value(4, 300), 0);
        for (int value : new int[] {-1, 20001, LOWEST, HIGHEST}) {
            Twins.refuseFalse("2: flow " + value, to -> bit(to.slot(4, 300, value)));
            Twins.refuseFalse("2: new flow " + value, to -> bit(to.slot(4, 1439, value)));
        }
    }

    private static void eightSlots(PumpDesk desk, int kind) {
        for (int k = 1; k <= 8; k++) {
            desk.slot(kind, 100 * k, 20 + k);
        }
    }

    // "or it would be the ninth one": in front of the others, between them, and behind them
    private static void slotNinthIsRefused() {
        for (int kind = 0; kind <= 4; kind++) {
            int ofKind = kind;
            for (int k = 8; k >= 1; k--) {
                PumpDesk desk = new PumpDesk();
                for (int j = 8; j > k; j--) {
                    desk.slot(kind, 100 * j, 20 + j);
                }
                Due.is("2: slot " + (9 - k) + " of eight", desk.slot(kind, 100 * k, 20 + k), true);
            }
            for (int start : new int[] {1, 99, 101, 450, 799, 801, 1439}) {
                Twins.refuse("2: the ninth at " + start, desk -> {
                    Twins.going(desk);
                    fillUp(desk, ofKind);
                }, desk -> bit(desk.slot(ofKind, start, 33)), 0);
            }
            PumpDesk desk = new PumpDesk();
            eightSlots(desk, kind);
            desk.slot(kind, 0, 33);
            desk.slot(kind, 850, 33);
            for (int minute = 0; minute < 1440; minute += 50) {
                int slot = minute < 100 ? 8 : Math.min(8, minute / 100);
                Due.is("2: of eight, at " + minute, desk.value(ofKind, minute), 20 + slot);
            }
            int other = (kind + 1) % 5;
            Due.is("2: eight of another kind do not count", desk.slot(other, 850, 33), true);
        }
    }

    /** The pasts of the twins have slots at 0, 60, 300 and 720 already: these make it eight. */
    private static void fillUp(PumpDesk desk, int kind) {
        for (int start = 200; desk.slot(kind, start, 20 + start / 100); start += 20) {
            Due.is("2: at most eight", start < 400, true);
        }
    }

    // "one that begins there is replaced", of eight, too
    private static void slotReplacesAmongEight() {
        for (int kind = 0; kind <= 4; kind++) {
            for (int k = 1; k <= 8; k++) {
                PumpDesk desk = new PumpDesk();
                eightSlots(desk, kind);
                Due.is("2: slot " + k + " of eight is replaced", desk.slot(kind, 100 * k, 99), true);
                for (int j = 1; j <= 8; j++) {
                    int want = j == k ? 99 : 20 + j;
                    Due.is("2: the slot begins", desk.value(kind, 100 * j), want);
                    Due.is("2: the slot ends", desk.value(kind, 100 * j + 99), want);
                }
                Due.is("2: before the first one", desk.value(kind, 99), k == 8 ? 99 : 28);
                Due.is("2: still eight", desk.slot(kind, 1000, 99), false);
            }
        }
        PumpDesk one = new PumpDesk();
        for (int k = 1; k <= 20; k++) {
            Due.is("2: replaced again and again", one.slot(0, 500, k), true);
            Due.is("2: the newest counts", one.value(0, 500), k);
        }
        for (int k = 1; k <= 7; k++) {
            Due.is("2: the replaced one is but one", one.slot(0, 500 + k, k), true);
        }
        Due.is("2: with it there are eight", one.slot(0, 600, 1), false);
    }

    // "NONE when there is no such kind or minute."
    private static void valueOfNoSuchKindOrMinute() {
        int[] first = {10, 50, 100, 120, 0};
        PumpDesk desk = new PumpDesk();
        for (int kind = 0; kind <= 4; kind++) {
            Due.is("3: kind " + kind + " at 0", desk.value(kind, 0), first[kind]);
            Due.is("3: kind " + kind + " at 1439", desk.value(kind, 1439), first[kind]);
            for (int minute : new int[] {-1, 1440, 2880, LOWEST, HIGHEST}) {
                Due.is("3: minute " + minute, desk.value(kind, minute), NONE);
            }
        }
        for (int kind : new int[] {-1, 5, LOWEST, HIGHEST}) {
            Due.is("3: kind " + kind + " at 0", desk.value(kind, 0), NONE);
            Due.is("3: kind " + kind + " at 1439", desk.value(kind, 1439), NONE);
            Due.is("3: kind " + kind + " at no minute", desk.value(kind, 1440), NONE);
        }
    }

    // "False when k is not 0 .. 32"
    private static void decayShareNumberIsZeroTo32() {
        Due.is("4: share 0", new PumpDesk().decay(0, 960), true);
        Due.is("4: share 32", new PumpDesk().decay(32, 0), true);
        for (int k : new int[] {-1, 33, LOWEST, HIGHEST}) {
            for (int share : new int[] {0, 500, 1000}) {
                Twins.refuseFalse("4: share " + k, desk -> bit(desk.decay(k, share)));
            }
        }
    }

    // "or share not 0 .. 1000"
    private static void decayShareIsZeroToThousand() {
        PumpDesk desk = new PumpDesk();
        for (int k = 0; k <= 32; k++) {
            Due.is("4: a share of 1000", desk.decay(k, 1000), true);
        }
        for (int k = 32; k >= 0; k--) {
            Due.is("4: a share of 0", desk.decay(k, 0), true);
        }
        for (int k = 0; k <= 32; k++) {
            int number = k;
            for (int share : new int[] {-1, 1001, LOWEST, HIGHEST}) {
                Due.is("4: a share of " + share, new PumpDesk().decay(number, share), false);
            }
        }
        Twins.refuseFalse("4: share 0 of 1001", to -> bit(to.decay(0, 1001)));
        Twins.refuseFalse("4: share 32 of -1", to -> bit(to.decay(32, -1)));
    }

    private static int firstShare(int k) {
        return Math.max(0, 1000 - 40 * k);
    }

    // "or it would be above the share before it": share 0 has none before it
    private static void decayNotAboveTheShareBefore() {
        for (int k = 1; k <= 32; k++) {
            int number = k;
            int before = firstShare(k - 1);
            Due.is("4: as the share before " + k, new PumpDesk().decay(k, before), true);
            Due.is("4: above the share before " + k, new PumpDesk().decay(k, before + 1), false);
            if (k > 1) {
                Twins.refuseFalse("4: above the share before " + k, to -> bit(to.decay(number, before + 1)));
            }
        }
        PumpDesk desk = new PumpDesk();
        desk.decay(0, 970);
        Due.is("4: as a changed share before", desk.decay(1, 970), true);
        Due.is("4: above a changed share before", desk.decay(1, 971), false);
        Due.is("4: share 0 again", desk.decay(0, 1000), true);
        Due.is("4: above it no more", desk.decay(1, 971), true);
    }

    // "or below the one behind it": share 32 has none behind it
    private static void decayNotBelowTheShareBehind() {
        for (int k = 0; k <= 31; k++) {
            int number = k;
            int behind = firstShare(k + 1);
            Due.is("4: as the share behind " + k, new PumpDesk().decay(k, behind), true);
            Due.is("4: below the share behind " + k, new PumpDesk().decay(k, behind - 1), false);
            Twins.refuseFalse("4: below the share behind " + k, to -> bit(to.decay(number, behind - 1)));
        }
        PumpDesk desk = new PumpDesk();
        for (int k = 25; k <= 32; k++) {
            desk.decay(k, 30);
        }
        Due.is("4: as a changed share behind", desk.decay(31, 30), true);
        Due.is("4: below a changed share behind", desk.decay(31, 29), false);
        Due.is("4: share 32 has none behind it", desk.decay(32, 0), true);
        Due.is("4: below it no more", desk.decay(31, 29), true);
    }

    // "False when they are not 0 .. 100000"
    private static void limitsDose() {
        PumpDesk desk = new PumpDesk();
        desk.slot(0, 0, 1);
        Due.is("5: dose 0", desk.limits(0, 1000000, 70, 2), true);
        Due.is("5: dose 0 counts", desk.ask(0, 1000), 0);
        Due.is("5: dose 100000", desk.limits(100000, 1000000, 70, 2), true);
        Due.is("5: dose 100000 counts", desk.ask(0, 1000), 100000);
        for (int dose : new int[] {-1, 100001, LOWEST, HIGHEST}) {
            Twins.refuseFalse("5: dose " + dose, to -> bit(to.limits(dose, 1000, 90, 2)));
        }
    }

    // "0 .. 1000000"
    private static void limitsDay() {
        PumpDesk desk = new PumpDesk();
        desk.slot(0, 0, 1);
        Due.is("5: day 0", desk.limits(100000, 0, 70, 2), true);
        Due.is("5: day 0 counts", desk.ask(0, 1000), 0);
        Due.is("5: day 1000000", desk.limits(100000, 1000000, 70, 2), true);
        for (int k = 0; k < 10; k++) {
            Due.is("5: a tenth of the day", desk.give(0, 1000), 100000);
        }
        Due.is("5: day 1000000 counts", desk.give(0, 1000), 0);
        Due.is("5: all of it is spent", desk.spent(0, 1), 1000000);
        for (int day : new int[] {-1, 1000001, LOWEST, HIGHEST}) {
            Twins.refuseFalse("5: day " + day, to -> bit(to.limits(1000, day, 90, 2)));
        }
    }

    // "1 .. 400"
    private static void limitsThreshold() {
        PumpDesk desk = new PumpDesk();
        Due.is("5: threshold 1", desk.limits(1000, 1000, 1, 1), true);
        Due.is("5: 2 is above it", desk.reading(0, 2), 0);
        Due.is("5: 1 is not", desk.reading(0, 1), 1);
        Due.is("5: 2 lets it go on", desk.reading(0, 2), 0);
        Due.is("5: threshold 400", desk.limits(1000, 1000, 400, 1), true);
        Due.is("5: 401 is above it", desk.reading(0, 401), 0);
        Due.is("5: 400 is not", desk.reading(0, 400), 1);
        for (int threshold : new int[] {0, -1, 401, LOWEST, HIGHEST}) {
            Twins.refuseFalse("5: threshold " + threshold, to -> bit(to.limits(1000, 1000, threshold, 2)));
        }
    }

    // "1 .. 20"
    private static void limitsTicks() {
        for (int ticks = 1; ticks <= 20; ticks++) {
            PumpDesk desk = new PumpDesk();
            Due.is("5: ticks " + ticks, desk.limits(1000, 1000, 70, ticks), true);
            desk.reading(0, 70);
            for (int k = 1; k < ticks; k++) {
                Due.is("5: still held", desk.reading(0, 71), 1);
                Due.is("5: so many ticks", desk.ticks(), k);
            }
            Due.is("5: goes on at tick " + ticks, desk.reading(0, 71), 0);
            Due.is("5: no ticks any more", desk.ticks(), 0);
        }
        for (int ticks : new int[] {0, -1, 21, LOWEST, HIGHEST}) {
            Twins.refuseFalse("5: ticks " + ticks, to -> bit(to.limits(1000, 1000, 90, ticks)));
        }
    }

    /** One wrong number refuses the three right ones beside it: none of them is taken over. */
    private static void limitsRefusedAsAWhole() {
        PumpDesk desk = new PumpDesk();
        desk.limits(0, 0, 400, 0);
        Due.is("5: the dose and the day as before", desk.ask(0, 1000), 10000);
        desk.limits(100000, 0, 0, 20);
        Due.is("5: the day as before", desk.ask(0, 1000), 10000);
        Due.is("5: the threshold as before", desk.reading(0, 71), 0);
        desk.reading(0, 70);
        desk.reading(0, 71);
        Due.is("5: the ticks as before", desk.reading(0, 71), 0);
    }

    // "when minute is before now"; "now is 0 at first"
    private static void minuteNotBeforeNow() {
        for (int k = 0; k < STEPS.length; k++) {
            Step step = STEPS[k];
            Due.is(STEP_NAMES[k] + " at 0", step.to(new PumpDesk(), 0) != NONE, true);
            Due.is(STEP_NAMES[k] + " at -1", step.to(new PumpDesk(), -1), NONE);
            PumpDesk desk = new PumpDesk();
            Twins.going(desk);
            Due.is(STEP_NAMES[k] + " at now", step.to(desk, NOW) != NONE, true);
            Due.is(STEP_NAMES[k] + " leaves now", desk.now(), NOW);
            for (int minute : new int[] {NOW - 1, 0, -1, LOWEST}) {
                Twins.refuseNone(STEP_NAMES[k] + " at " + minute, to -> step.to(to, minute));
            }
        }
    }

    // "or more than 2880 behind now"
    private static void minuteNotMoreThan2880Behind() {
        for (int k = 0; k < STEPS.length; k++) {
            Step step = STEPS[k];
            PumpDesk desk = new PumpDesk();
            Due.is(STEP_NAMES[k] + " at 2881", step.to(desk, LONGEST_STEP + 1), NONE);
            Due.is(STEP_NAMES[k] + " at 2880", step.to(desk, LONGEST_STEP) != NONE, true);
            Due.is(STEP_NAMES[k] + " goes to 2880", desk.now(), LONGEST_STEP);
            Due.is(STEP_NAMES[k] + " at 5761", step.to(desk, 2 * LONGEST_STEP + 1), NONE);
            Due.is(STEP_NAMES[k] + " at 5760", step.to(desk, 2 * LONGEST_STEP) != NONE, true);
            for (int minute : new int[] {NOW + LONGEST_STEP + 1, LAST_MINUTE, LAST_MINUTE + 1, HIGHEST}) {
                Twins.refuseNone(STEP_NAMES[k] + " at " + minute, to -> step.to(to, minute));
            }
        }
    }

    private static PumpDesk deskAt(int minute) {
        PumpDesk desk = new PumpDesk();
        for (int at = LONGEST_STEP; at < minute; at += LONGEST_STEP) {
            desk.ask(at, 0);
        }
        desk.ask(minute, 0);
        Due.is("a desk at " + minute, desk.now(), minute);
        return desk;
    }

    // "or above 100000": where the longest step ends there, a minute beyond, and at the very end
    private static void minuteNotAbove100000() {
        int atTheStep = LAST_MINUTE - LONGEST_STEP;
        for (int k = 0; k < STEPS.length; k++) {
            for (int from : new int[] {atTheStep, atTheStep + 1, LAST_MINUTE - 1, LAST_MINUTE}) {
                String call = STEP_NAMES[k] + " from " + from;
                PumpDesk desk = deskAt(from);
                for (int minute : new int[] {LAST_MINUTE + 1, from + LONGEST_STEP + 1, from - 1, HIGHEST}) {
                    Due.is(call + " to " + minute, STEPS[k].to(desk, minute), NONE);
                }
                Due.is(call + ": now as before", desk.now(), from);
                Due.is(call + ": no dose", desk.doses(), 0);
                Due.is(call + ": no reading", desk.last(0), NONE);
                Due.is(call + " to 100000", STEPS[k].to(desk, LAST_MINUTE) != NONE, true);
                Due.is(call + " goes there", desk.now(), LAST_MINUTE);
                Due.is(call + " and is there", STEPS[k].to(desk, LAST_MINUTE) != NONE, true);
            }
        }
    }

    // "or g is not 1 .. 1000."
    private static void readingIsOneToThousand() {
        PumpDesk desk = new PumpDesk();
        Due.is("6: 1000", desk.reading(5, 1000), 0);
        Due.is("6: 1000 is the latest", desk.last(0), 1000);
        Due.is("6: 1", desk.reading(6, 1), 1);
        Due.is("6: 1 is the latest", desk.last(0), 1);
        for (int g : new int[] {0, -1, 1001, LOWEST, HIGHEST}) {
            Twins.refuseNone("6: now, " + g, to -> to.reading(NOW, g));
            Twins.refuseNone("6: later, " + g, to -> to.reading(NOW + 30, g));
        }
    }

    // "or when carbs is not 0 .. 1000"; give: "NONE as for ask()"
    private static void carbsAreZeroToThousand() {
        PumpDesk desk = new PumpDesk();
        desk.slot(0, 0, 20);
        desk.limits(100000, 1000000, 70, 2);
        Due.is("7: carbs 0", desk.ask(0, 0), 0);
        Due.is("7: carbs 1000", desk.ask(0, 1000), 50000);
        Due.is("8: carbs 0", desk.give(0, 0), 0);
        Due.is("8: carbs 1000", desk.give(0, 1000), 50000);
        for (int carbs : new int[] {-1, 1001, LOWEST, HIGHEST}) {
            Twins.refuseNone("7: now, carbs " + carbs, to -> to.ask(NOW, carbs));
            Twins.refuseNone("7: later, carbs " + carbs, to -> to.ask(NOW + 30, carbs));
            Twins.refuseNone("8: now, carbs " + carbs, to -> to.give(NOW, carbs));
            Twins.refuseNone("8: later, carbs " + carbs, to -> to.give(NOW + 30, carbs));
        }
    }

    // "or when there were 200": doses of 0 are counted, too; asks and refused gives are not
    private static void giveAtMostTwoHundred() {
        PumpDesk desk = new PumpDesk();
        for (int k = 0; k < 199; k++) {
            desk.give(k, 0);
        }
        desk.ask(199, 10);
        desk.give(199, 1001);
        Due.is("8: there are 199", desk.doses(), 199);
        Due.is("8: the 200th", desk.give(199, 10), 1000);
        Due.is("8: there are 200", desk.doses(), 200);
        Due.is("8: the 200th is kept", desk.dose(199, 1), 1000);
        Due.is("8: and is at work", desk.work(), 1000);
        Due.is("8: the 201st", desk.give(199, 10), NONE);
        Due.is("8: still 200", desk.doses(), 200);
        Due.is("8: the 201st is not kept", desk.dose(200, 1), NONE);
        for (int minute : new int[] {NOW, NOW + 30, NOW + LONGEST_STEP, NOW - 1}) {
            Twins.refuse("8: the 201st at " + minute, Twins::full, to -> to.give(minute, 10), NONE);
        }
        Due.is("8: ask goes on", desk.ask(NOW, 10), 1000);
        Due.is("8: reading goes on", desk.reading(NOW, 100), 0);
    }

    // "NONE when day is not 0 .. 69"
    private static void spentDayIsZeroTo69() {
        PumpDesk desk = deskAt(LAST_MINUTE);
        desk.give(LAST_MINUTE, 10);
        for (int what = 0; what <= 2; what++) {
            Due.is("11: day 0", desk.spent(0, what), 0);
            Due.is("11: day 69", desk.spent(69, what), what == 0 ? 0 : 1000);
            for (int day : new int[] {-1, 70, LOWEST, HIGHEST}) {
                Due.is("11: day " + day, desk.spent(day, what), NONE);
            }
        }
    }

    // "or for others."
    private static void spentWhatIsZeroToTwo() {
        PumpDesk desk = new PumpDesk();
        desk.slot(4, 0, 60);
        desk.give(100, 10);
        Due.is("11: what = 0", desk.spent(0, 0), 100);
        Due.is("11: what = 1", desk.spent(0, 1), 1000);
        Due.is("11: what = 2", desk.spent(0, 2), 1100);
        for (int what : new int[] {-1, 3, LOWEST, HIGHEST}) {
            Due.is("11: what = " + what, desk.spent(0, what), NONE);
            Due.is("11: no day, what = " + what, desk.spent(70, what), NONE);
        }
    }

    // "NONE (which X may be, too) when there is none such"
    private static void doseThatThereIs() {
        for (int what = 0; what <= 5; what++) {
            PumpDesk desk = new PumpDesk();
            Due.is("14: none at all", desk.dose(0, what), NONE);
            desk.give(7, 0);
            desk.give(7, 0);
            Due.is("14: the first", desk.dose(0, what), what == 0 ? 7 : 0);
            Due.is("14: the last", desk.dose(1, what), what == 0 ? 7 : 0);
            for (int k : new int[] {-1, 2, 199, 200, LOWEST, HIGHEST}) {
                Due.is("14: dose " + k, desk.dose(k, what), NONE);
            }
        }
        PumpDesk full = new PumpDesk();
        Twins.full(full);
        Due.is("14: dose 199 of 200", full.dose(199, 0), NOW);
        Due.is("14: dose 200 of 200", full.dose(200, 0), NONE);
    }

    // "or for others."
    private static void doseWhatIsZeroToFive() {
        PumpDesk desk = new PumpDesk();
        desk.give(7, 1000);
        Due.is("14: what = 0", desk.dose(0, 0), 7);
        Due.is("14: what = 5", desk.dose(0, 5), 1);
        for (int what : new int[] {-1, 6, LOWEST, HIGHEST}) {
            Due.is("14: what = " + what, desk.dose(0, what), NONE);
            Due.is("14: no dose, what = " + what, desk.dose(1, what), NONE);
        }
    }

    // "NONE when there was none, or for others."
    private static void lastWhatIsZeroOrOne() {
        PumpDesk desk = new PumpDesk();
        desk.reading(0, 0);
        desk.reading(-1, 100);
        for (int what : new int[] {-1, 0, 1, 2, LOWEST, HIGHEST}) {
            Due.is("16: no reading, what = " + what, desk.last(what), NONE);
        }
        desk.reading(0, 100);
        Due.is("16: what = 0", desk.last(0), 100);
        Due.is("16: what = 1", desk.last(1), 0);
        for (int what : new int[] {-1, 2, LOWEST, HIGHEST}) {
            Due.is("16: what = " + what, desk.last(what), NONE);
        }
    }

    /** The calls that only look, with wrong arguments, leave all as it was. */
    private static void looksChangeNothing() {
        Twins.refuseNone("3: value", desk -> desk.value(5, 1440));
        Twins.refuseNone("11: spent", desk -> desk.spent(70, 0));
        Twins.refuseNone("14: dose", desk -> desk.dose(200, 0));
        Twins.refuseNone("16: last", desk -> desk.last(2));
    }
}
