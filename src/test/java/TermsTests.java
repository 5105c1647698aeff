/**
 * For each sentence of the section "Terms", and of the promises that use its words, that names a
 * boundary case: the last case on its one side and the first on the other.
 */
public final class TermsTests {
    private static final int NONE = PumpDesk.NONE;
    private static final int DAY = 1440;

    public static void main(String[] args) {
        slotAtOrBeforeTheMinute();
        slotOfTheDayBefore();
        noSlotLeavesWhatStandsAbove();
        sharesAtFirst();
        shareByTheAge();
        shareBeyond32();
        atWorkIsRoundedDown();
        atWorkByGiveAlone();
        flowOfTheMinutesUpToThatOne();
        flowBySlotsOfTheMinute();
        flowIsCarriedAsSixtieths();
        flowCountsForItsDay();
        flowOfAHeldPump();
        dosesCountForTheirDay();
        thresholdOrLessHolds();
        ticksOneAfterTheOther();
        limitsLeaveThePumpAsItWas();
        mealIsRoundedDown();
        readingOfTheLast15Minutes();
        latestReadingAlone();
        aboveTheGreatest();
        lessWhatIsAtWork();
        belowTheLeast();
        leastAboveTheGreatest();
        wantedAtLeastZero();
        wantedAtMostTheGreatestDose();
        wantedAtMostWhatIsLeftOfTheDay();
        wantedInWhole50s();
        wantedOfAHeldPump();
        whyItWasLess();
        xMayBeNone();
        greatestNumbers();
        Due.end();
    }

    private static void dueDose(String call, PumpDesk desk, int k, int... wants) {
        for (int what = 0; what < 6; what++) {
            Due.is(call + ", what = " + what, desk.dose(k, what), wants[what]);
        }
    }

    // "what is told for the slot that begins last at or before the minute counts"
    private static void slotAtOrBeforeTheMinute() {
        for (int kind = 0; kind <= 4; kind++) {
            PumpDesk desk = new PumpDesk();
            desk.slot(kind, 800, 3);
            desk.slot(kind, 400, 1);
            desk.slot(kind, 401, 2);
            Due.is("a minute of its own", desk.value(kind, 400), 1);
            Due.is("the next one begins", desk.value(kind, 401), 2);
            Due.is("it goes on", desk.value(kind, 402), 2);
            Due.is("up to the third one", desk.value(kind, 799), 2);
            Due.is("the third one begins", desk.value(kind, 800), 3);
            Due.is("up to midnight", desk.value(kind, 1439), 3);
        }
    }

    // "that of the last slot of the day before the first one begins"
    private static void slotOfTheDayBefore() {
        for (int kind = 0; kind <= 4; kind++) {
            PumpDesk desk = new PumpDesk();
            desk.slot(kind, 1439, 5);
            Due.is("one slot in the last minute, at 0", desk.value(kind, 0), 5);
            Due.is("one slot in the last minute, before it", desk.value(kind, 1438), 5);
            Due.is("one slot in the last minute, at it", desk.value(kind, 1439), 5);
            desk.slot(kind, 1, 4);
            Due.is("two slots, at 0", desk.value(kind, 0), 5);
            Due.is("two slots, at 1", desk.value(kind, 1), 4);
            Due.is("two slots, before the last", desk.value(kind, 1438), 4);
            desk.slot(kind, 0, 3);
            Due.is("a slot at 0 leaves nothing before it", desk.value(kind, 0), 3);
            Due.is("a slot at 0 ends at 1", desk.value(kind, 1), 4);
        }
    }

    // "what stands above when there is none"
    private static void noSlotLeavesWhatStandsAbove() {
        int[] first = {10, 50, 100, 120, 0};
        for (int kind = 0; kind <= 4; kind++) {
            PumpDesk desk = new PumpDesk();
            for (int other = 0; other <= 4; other++) {
                if (other != kind) {
                    desk.slot(other, 700, 77);
                }
            }
            desk.slot(kind, 700, -1);
            Due.is("no slot of kind " + kind + " at 0", desk.value(kind, 0), first[kind]);
            Due.is("no slot of kind " + kind + " at 700", desk.value(kind, 700), first[kind]);
            Due.is("no slot of kind " + kind + " at 1439", desk.value(kind, 1439), first[kind]);
        }
    }

    // "shares 0 .. 32 are 1000, 960, .. 40 less each time down to 0 at first (share 25 and on)"
    private static void sharesAtFirst() {
        PumpDesk desk = new PumpDesk();
        desk.give(0, 100);
        for (int k = 0; k <= 34; k++) {
            desk.ask(15 * k, 0);
            Due.is("share " + k, desk.work(), k >= 25 ? 0 : 10000 - 400 * k);
        }
    }

    // "k being the age / 15, rounded down"
    private static void shareByTheAge() {
        PumpDesk desk = new PumpDesk();
        desk.give(7, 100);
        int[] ages = {0, 14, 15, 29, 30, 359, 360, 374, 375};
        int[] wants = {10000, 10000, 9600, 9600, 9200, 800, 400, 400, 0};
        for (int k = 0; k < ages.length; k++) {
            desk.ask(7 + ages[k], 0);
            Due.is("age " + ages[k], desk.work(), wants[k]);
        }
    }

    // "beyond share 32 nothing"
    private static void shareBeyond32() {
        PumpDesk desk = new PumpDesk();
        for (int k = 0; k <= 32; k++) {
            desk.decay(k, 1000);
        }
        desk.give(100, 100);
        int[] ages = {0, 479, 480, 494, 495, 496, 2000};
        int[] wants = {10000, 10000, 10000, 10000, 0, 0, 0};
        for (int k = 0; k < ages.length; k++) {
            desk.ask(100 + ages[k], 0);
            Due.is("whole shares, age " + ages[k], desk.work(), wants[k]);
        }
    }

    // "its parts times share k / 1000, rounded down": "the sum for all doses", each by itself
    private static void atWorkIsRoundedDown() {
        PumpDesk desk = new PumpDesk();
        desk.give(0, 1);
        desk.decay(0, 990);
        Due.is("99 of 100", desk.work(), 99);
        desk.decay(0, 989);
        Due.is("98.9 of 100", desk.work(), 98);
        desk.decay(0, 980);
        Due.is("98 of 100", desk.work(), 98);
        desk.decay(0, 979);
        Due.is("97.9 of 100", desk.work(), 97);
        desk.give(0, 1);
        Due.is("97.9 two times", desk.work(), 194);
        for (int k = 32; k >= 2; k--) {
            desk.decay(k, 0);
        }
        desk.ask(15, 0);
        Due.is("share 1 of 9", desk.decay(1, 9), true);
        Due.is("0.9 two times", desk.work(), 0);
        Due.is("share 1 of 10", desk.decay(1, 10), true);
        Due.is("1 two times", desk.work(), 2);
    }

    // "of a dose (by give() alone)": neither what was asked for nor the steady flow
    private static void atWorkByGiveAlone() {
        PumpDesk desk = new PumpDesk();
        desk.slot(4, 0, 20000);
        desk.ask(1, 100);
        desk.reading(2, 300);
        Due.is("nothing was given", desk.work(), 0);
        Due.is("but much flowed", desk.spent(0, 0), 666);
        desk.give(2, 0);
        Due.is("the dose alone", desk.work(), 3600);
    }

    // "For each minute from now on, up to that one": from now itself, and that one not
    private static void flowOfTheMinutesUpToThatOne() {
        PumpDesk desk = new PumpDesk();
        desk.slot(4, 0, 60);
        desk.ask(0, 0);
        Due.is("no minute", desk.spent(0, 0), 0);
        desk.ask(1, 0);
        Due.is("minute 0", desk.spent(0, 0), 1);
        desk.reading(1, 100);
        desk.give(1, 0);
        Due.is("at now nothing more", desk.spent(0, 0), 1);
        desk.reading(3, 100);
        Due.is("by a reading", desk.spent(0, 0), 3);
        desk.give(6, 0);
        Due.is("by give", desk.spent(0, 0), 6);
        desk.ask(10, 0);
        Due.is("by ask", desk.spent(0, 0), 10);
    }

    // "the steady flow at its beginning is one minute's"
    private static void flowBySlotsOfTheMinute() {
        PumpDesk desk = new PumpDesk();
        desk.slot(4, 0, 60);
        desk.slot(4, 10, 600);
        desk.slot(4, 11, 6000);
        desk.slot(4, 12, 0);
        int[] minutes = {0, 9, 10, 11, 12, 13, 1439};
        int[] wants = {0, 9, 10, 20, 120, 120, 120};
        for (int day = 0; day < 2; day++) {
            for (int k = 0; k < minutes.length; k++) {
                desk.ask(day * DAY + minutes[k], 0);
                Due.is("flow of day " + day + " up to " + minutes[k], desk.spent(day, 0), wants[k]);
            }
        }
        PumpDesk around = new PumpDesk();
        around.slot(4, 1439, 120);
        around.slot(4, 1, 0);
        around.ask(1439, 0);
        Due.is("the last slot of the day before, in minute 0", around.spent(0, 0), 2);
        around.ask(1440, 0);
        Due.is("the last minute of the day", around.spent(0, 0), 4);
        around.ask(1500, 0);
        Due.is("the first minute of the next one", around.spent(1, 0), 2);
        PumpDesk eight = new PumpDesk();
        for (int k = 7; k >= 0; k--) {
            eight.slot(4, 180 * k + 90, 60 * (k + 1));
        }
        eight.ask(2880, 0);
        Due.is("eight slots of three hours, a day", eight.spent(0, 0), 180 * 36);
        Due.is("eight slots of three hours, the next one", eight.spent(1, 0), 180 * 36);
        eight.ask(2881, 0);
        Due.is("the last slot goes on behind midnight", eight.spent(2, 0), 8);
    }

    // "C grows by F, and C / 60 parts (rounded down) flow, C keeping the rest"
    private static void flowIsCarriedAsSixtieths() {
        PumpDesk desk = new PumpDesk();
        desk.slot(4, 0, 1);
        desk.ask(59, 0);
        Due.is("59 sixtieths", desk.spent(0, 0), 0);
        desk.ask(60, 0);
        Due.is("60 sixtieths", desk.spent(0, 0), 1);
        desk.ask(119, 0);
        Due.is("119 sixtieths", desk.spent(0, 0), 1);
        desk.slot(4, 0, 61);
        desk.ask(120, 0);
        Due.is("59 and 61 sixtieths", desk.spent(0, 0), 3);
        desk.slot(4, 0, 119);
        desk.ask(121, 0);
        Due.is("119 sixtieths at once", desk.spent(0, 0), 4);
        desk.slot(4, 0, 0);
        desk.ask(200, 0);
        Due.is("no flow leaves the rest", desk.spent(0, 0), 4);
        desk.slot(4, 0, 1);
        desk.ask(201, 0);
        Due.is("the rest and one more", desk.spent(0, 0), 5);
    }

    // "What flows ... count for the DAY (now / 1440, of that minute ...)": the rest is carried over midnight
    private static void flowCountsForItsDay() {
        PumpDesk desk = new PumpDesk();
        desk.slot(4, 0, 59);
        desk.ask(1440, 0);
        Due.is("day 0", desk.spent(0, 0), 1416);
        Due.is("nothing of day 1", desk.spent(1, 0), 0);
        PumpDesk rest = new PumpDesk();
        rest.slot(4, 0, 0);
        rest.slot(4, 1439, 59);
        rest.ask(1440, 0);
        rest.slot(4, 0, 1);
        rest.ask(1441, 0);
        Due.is("a rest of day 0", rest.spent(0, 0), 0);
        Due.is("flows on day 1", rest.spent(1, 0), 1);
        PumpDesk three = new PumpDesk();
        three.slot(4, 0, 60);
        three.ask(1439, 0);
        three.ask(1439 + 2880, 0);
        Due.is("one step over three days, the first", three.spent(0, 0), 1440);
        Due.is("one step over three days, the second", three.spent(1, 0), 1440);
        Due.is("one step over three days, the third", three.spent(2, 0), 1439);
    }

    // "When the pump is HELD, or was so at the beginning of the minute, nothing flows, and C stays."
    private static void flowOfAHeldPump() {
        PumpDesk desk = new PumpDesk();
        desk.slot(4, 0, 59);
        desk.reading(1, 70);
        Due.is("59 sixtieths before it is held", desk.spent(0, 0), 0);
        desk.ask(100, 0);
        desk.give(200, 0);
        desk.reading(300, 71);
        Due.is("nothing by ask, give and a reading", desk.spent(0, 0), 0);
        desk.reading(1500, 71);
        Due.is("nothing up to the reading at which it goes on", desk.spent(0, 0), 0);
        Due.is("nor on its day", desk.spent(1, 0), 0);
        desk.slot(4, 0, 1);
        desk.ask(1501, 0);
        Due.is("the rest stayed", desk.spent(1, 0), 1);
        desk.reading(1501, 70);
        desk.reading(1501, 71);
        desk.reading(1501, 71);
        desk.slot(4, 0, 60);
        desk.ask(1502, 0);
        Due.is("held and going on in one minute", desk.spent(1, 0), 2);
    }

    // "doses count for the DAY (... of a dose: of its minute)"
    private static void dosesCountForTheirDay() {
        PumpDesk desk = new PumpDesk();
        desk.give(1439, 10);
        Due.is("the last minute of day 0", desk.spent(0, 1), 1000);
        desk.give(1440, 20);
        Due.is("day 0 is over", desk.spent(0, 1), 1000);
        Due.is("the first minute of day 1", desk.spent(1, 1), 2000);
        desk.give(2879, 30);
        Due.is("the last minute of day 1", desk.spent(1, 2), 5000);
        Due.is("nothing of day 2", desk.spent(2, 2), 0);
    }

    // "A READING of the THRESHOLD or less holds the pump (70 at first)."
    private static void thresholdOrLessHolds() {
        int[] readings = {1, 69, 70, 71, 1000};
        for (int g : readings) {
            PumpDesk desk = new PumpDesk();
            Due.is("a reading of " + g, desk.reading(0, g), g <= 70 ? 1 : 0);
            Due.is("held by " + g, desk.held(), g <= 70);
            desk.limits(10000, 50000, 200, 2);
            Due.is("199 of 200", desk.reading(0, 199), 1);
            PumpDesk other = new PumpDesk();
            other.limits(10000, 50000, 200, 2);
            Due.is("201 of 200", other.reading(0, 201), 0);
            Due.is("200 of 200", other.reading(0, 200), 1);
        }
    }

    // "so many readings one after the other (TICKS, 2 at first) were above the threshold"
    private static void ticksOneAfterTheOther() {
        PumpDesk desk = new PumpDesk();
        desk.reading(0, 200);
        desk.reading(0, 200);
        desk.reading(0, 70);
        Due.is("readings before it was held are none", desk.ticks(), 0);
        Due.is("the first above", desk.reading(0, 71), 1);
        Due.is("the first tick", desk.ticks(), 1);
        Due.is("the threshold between", desk.reading(0, 70), 1);
        Due.is("no tick", desk.ticks(), 0);
        Due.is("the first above again", desk.reading(0, 71), 1);
        desk.ask(2000, 0);
        desk.give(2000, 0);
        Due.is("ask and give between leave the tick", desk.ticks(), 1);
        Due.is("still held", desk.held(), true);
        Due.is("a refused reading between is none", desk.reading(1999, 60), NONE);
        Due.is("the second above", desk.reading(2000, 71), 0);
        Due.is("it goes on at the last of them", desk.held(), false);
        Due.is("no ticks while it is not held", desk.ticks(), 0);
        desk.reading(2000, 71);
        Due.is("nor at the next one", desk.ticks(), 0);
        desk.reading(2000, 70);
        Due.is("held again", desk.held(), true);
        Due.is("from no tick on", desk.ticks(), 0);
    }

    // "(The pump is held or not as it was.)"
    private static void limitsLeaveThePumpAsItWas() {
        PumpDesk desk = new PumpDesk();
        desk.reading(0, 100);
        desk.limits(10000, 50000, 100, 2);
        Due.is("not held, though the latest is the new threshold", desk.held(), false);
        desk.reading(0, 100);
        Due.is("held at the next one", desk.held(), true);
        desk.reading(0, 101);
        desk.limits(10000, 50000, 1, 1);
        Due.is("held, though the tick is enough now", desk.held(), true);
        Due.is("with its tick", desk.ticks(), 1);
        Due.is("wants nothing", desk.ask(0, 100), 0);
        Due.is("goes on at the next one above", desk.reading(0, 2), 0);
        PumpDesk more = new PumpDesk();
        more.reading(0, 70);
        more.reading(0, 71);
        more.limits(10000, 50000, 70, 3);
        Due.is("the second of three", more.reading(0, 71), 1);
        Due.is("the third of three", more.reading(0, 71), 0);
    }

    // "M = c * 1000 / (kind 0), rounded down"
    private static void mealIsRoundedDown() {
        PumpDesk desk = new PumpDesk();
        int[] grams = {1, 2, 3, 999, 1000};
        int[] wants = {333, 666, 1000, 333000, 333333};
        desk.slot(0, 0, 3);
        for (int k = 0; k < grams.length; k++) {
            desk.give(0, grams[k]);
            Due.is("M of " + grams[k], desk.dose(k, 2), wants[k]);
        }
        desk.slot(0, 0, 1000);
        desk.give(0, 1000);
        Due.is("M of 1000 by 1000", desk.dose(5, 2), 1000);
        desk.slot(0, 0, 1);
        desk.give(0, 1000);
        Due.is("M of 1000 by 1", desk.dose(6, 2), 1000000);
        desk.give(0, 0);
        Due.is("M of nothing", desk.dose(7, 2), 0);
    }

    // "its minute is not more than 15 before"; "0, too, without such a reading"
    private static void readingOfTheLast15Minutes() {
        int[] ages = {0, 1, 14, 15, 16, 17, 1440, 1455};
        for (int age : ages) {
            PumpDesk desk = new PumpDesk();
            desk.reading(1430, 220);
            desk.give(1430 + age, 0);
            Due.is("X of a high reading " + age + " before", desk.dose(0, 3), age <= 15 ? 2000 : 0);
            PumpDesk low = new PumpDesk();
            low.reading(0, 80);
            low.give(age, 10);
            Due.is("X of a low reading " + age + " before", low.dose(0, 3), age <= 15 ? -400 : 0);
        }
        PumpDesk none = new PumpDesk();
        none.give(0, 10);
        dueDose("no reading at all", none, 0, 0, 1000, 1000, 0, 0, 0);
        none.give(14, 10);
        Due.is("no reading at all, later", none.dose(1, 3), 0);
    }

    /** The latest one counts, of one minute too, and not the highest or the lowest of the last 15. */
    private static void latestReadingAlone() {
        PumpDesk desk = new PumpDesk();
        desk.reading(0, 300);
        desk.reading(5, 170);
        desk.reading(5, 110);
        Due.is("the latest wants nothing", desk.ask(5, 0), 0);
        desk.reading(5, 170);
        Due.is("the latest of the minute", desk.ask(5, 0), 1000);
        Due.is("15 behind the latest", desk.ask(20, 0), 1000);
        Due.is("16 behind the latest", desk.ask(21, 0), 0);
    }

    // "above the greatest (kind 3) X = (g - that) * 1000 / (kind 1), rounded down"
    private static void aboveTheGreatest() {
        PumpDesk desk = new PumpDesk();
        desk.slot(1, 0, 3);
        int[] readings = {119, 120, 121, 122, 123};
        int[] wants = {0, 0, 333, 666, 1000};
        desk.limits(0, 0, 70, 2);
        for (int k = 0; k < readings.length; k++) {
            desk.reading(0, readings[k]);
            desk.give(0, 0);
            Due.is("X of " + readings[k], desk.dose(k, 3), wants[k]);
        }
        desk.slot(1, 0, 1);
        desk.slot(3, 0, 1);
        desk.reading(0, 1000);
        desk.give(0, 0);
        Due.is("the greatest X", desk.dose(5, 3), 999000);
    }

    // "less what is AT WORK, but not below 0"
    private static void lessWhatIsAtWork() {
        PumpDesk desk = new PumpDesk();
        desk.slot(1, 0, 1000);
        desk.give(0, 1);
        int[] readings = {219, 220, 221};
        int[] wants = {0, 0, 1};
        for (int k = 0; k < readings.length; k++) {
            desk.reading(0, readings[k]);
            desk.give(0, 0);
            dueDose("100 at work, a reading of " + readings[k], desk, k + 1, 0, 0, 0, wants[k], 100, 0);
        }
        desk.reading(0, 119);
        desk.give(0, 1);
        dueDose("at work takes nothing from a meal", desk, 4, 0, 100, 100, 0, 100, 0);
        desk.reading(0, 80);
        desk.give(0, 1);
        dueDose("nor from a low reading's X", desk, 5, 0, 50, 100, -20, 200, 0);
        desk.reading(375, 121);
        desk.give(375, 0);
        dueDose("nothing is at work any more", desk, 6, 375, 0, 0, 1, 0, 0);
    }

    // "below the least (kind 2) X = - ((that - g) * 1000 / (kind 1), rounded up); otherwise X = 0"
    private static void belowTheLeast() {
        PumpDesk desk = new PumpDesk();
        desk.slot(1, 0, 3);
        int[] readings = {101, 100, 99, 98, 97, 96};
        int[] wants = {0, 0, -334, -667, -1000, -1334};
        for (int k = 0; k < readings.length; k++) {
            desk.reading(0, readings[k]);
            desk.give(0, 0);
            Due.is("X of " + readings[k], desk.dose(k, 3), wants[k]);
        }
        desk.slot(1, 0, 1);
        desk.slot(2, 0, 1000);
        desk.slot(3, 0, 1000);
        desk.reading(0, 1);
        desk.give(0, 0);
        Due.is("the least X", desk.dose(6, 3), -999000);
        desk.reading(0, 1000);
        desk.give(0, 0);
        Due.is("at the least that is the greatest", desk.dose(7, 3), 0);
    }

    /** Nothing keeps the least aim below the greatest one: "above the greatest" is told first. */
    private static void leastAboveTheGreatest() {
        PumpDesk desk = new PumpDesk();
        desk.slot(2, 0, 200);
        desk.slot(3, 0, 100);
        int[] readings = {99, 100, 101, 199, 200, 201};
        int[] wants = {-2020, -2000, 20, 1980, 2000, 2020};
        desk.limits(0, 0, 70, 2);
        for (int k = 0; k < readings.length; k++) {
            desk.reading(0, readings[k]);
            desk.give(0, 0);
            Due.is("aims 200 and 100, a reading of " + readings[k], desk.dose(k, 3), wants[k]);
        }
    }

    // "M + X, at least 0"
    private static void wantedAtLeastZero() {
        PumpDesk desk = new PumpDesk();
        desk.reading(0, 75);
        int[] grams = {0, 4, 5, 6};
        int[] wants = {0, 0, 0, 100};
        for (int k = 0; k < grams.length; k++) {
            Due.is("X of -500, asked for " + grams[k], desk.ask(0, grams[k]), wants[k]);
            Due.is("X of -500, given " + grams[k], desk.give(0, grams[k]), wants[k]);
            dueDose("X of -500 and " + grams[k], desk, k, 0, wants[k], 100 * grams[k], -500, 0, 0);
        }
        Due.is("a dose below 0 takes nothing from the day", desk.spent(0, 1), 100);
    }

    // "at most the greatest dose (10000 at first)"
    private static void wantedAtMostTheGreatestDose() {
        PumpDesk desk = new PumpDesk();
        Due.is("100 grams", desk.ask(0, 100), 10000);
        Due.is("101 grams", desk.ask(0, 101), 10000);
        Due.is("99 grams", desk.ask(0, 99), 9900);
        desk.limits(10050, 50000, 70, 2);
        Due.is("50 more", desk.ask(0, 101), 10050);
        desk.limits(10100, 50000, 70, 2);
        Due.is("100 more", desk.ask(0, 101), 10100);
        desk.limits(49, 50000, 70, 2);
        Due.is("less than one step", desk.ask(0, 101), 0);
        desk.limits(50, 50000, 70, 2);
        Due.is("one step", desk.ask(0, 101), 50);
    }

    // "at most what is left of the greatest for a day (50000) on that day (not below 0)"
    private static void wantedAtMostWhatIsLeftOfTheDay() {
        PumpDesk desk = new PumpDesk();
        for (int k = 0; k < 4; k++) {
            desk.give(0, 100);
        }
        desk.give(0, 99);
        Due.is("100 are left", desk.ask(0, 1), 100);
        Due.is("not more", desk.ask(0, 2), 100);
        desk.give(0, 1);
        Due.is("nothing is left", desk.ask(1439, 1), 0);
        Due.is("all of the next day is left", desk.ask(1440, 1000), 10000);
        desk.limits(100000, 50000, 70, 2);
        Due.is("the whole of it", desk.ask(1440, 1000), 50000);
        PumpDesk flow = new PumpDesk();
        flow.slot(4, 0, 60);
        flow.limits(100000, 1000, 70, 2);
        Due.is("flow of 900", flow.ask(900, 1000), 100);
        Due.is("flow of 950", flow.ask(950, 1000), 50);
        Due.is("flow of 951", flow.ask(951, 1000), 0);
        Due.is("flow of 1000", flow.ask(1000, 1000), 0);
        Due.is("flow beyond the day", flow.give(1200, 1000), 0);
        Due.is("the flow goes on", flow.spent(0, 2), 1200);
        flow.ask(1439, 0);
        Due.is("to the end of the day", flow.spent(0, 2), 1439);
        Due.is("the next day is whole again", flow.ask(1440, 1000), 1000);
        flow.limits(100000, 0, 70, 2);
        Due.is("no day at all", flow.ask(1441, 1000), 0);
        Due.is("still flow", flow.spent(1, 0), 1);
    }

    // "rounded down to whole 50s"
    private static void wantedInWhole50s() {
        PumpDesk desk = new PumpDesk();
        desk.slot(0, 0, 1000);
        int[] grams = {0, 1, 49, 50, 51, 99, 100, 149, 150, 999, 1000};
        for (int c : grams) {
            Due.is(c + " parts", desk.ask(0, c), c / 50 * 50);
        }
        desk.limits(149, 50000, 70, 2);
        Due.is("within the greatest dose", desk.ask(0, 1000), 100);
        desk.limits(150, 50000, 70, 2);
        Due.is("as the greatest dose", desk.ask(0, 1000), 150);
        desk.limits(1000, 149, 70, 2);
        Due.is("within the day", desk.ask(0, 1000), 100);
        desk.limits(1000, 150, 70, 2);
        Due.is("as the day", desk.ask(0, 1000), 150);
    }

    // "0 when the pump is held"
    private static void wantedOfAHeldPump() {
        PumpDesk desk = new PumpDesk();
        desk.reading(0, 71);
        Due.is("not held", desk.ask(0, 20), 1400);
        desk.reading(0, 70);
        Due.is("held, asked", desk.ask(0, 1000), 0);
        Due.is("held, given", desk.give(0, 1000), 0);
        Due.is("is a dose, too", desk.doses(), 1);
        desk.reading(0, 300);
        Due.is("held with a tick", desk.ask(0, 1000), 0);
        Due.is("held later", desk.ask(2000, 1000), 0);
        desk.reading(2000, 100);
        Due.is("goes on", desk.ask(2000, 20), 2000);
    }

    // "5 why it was less than M + X ... (that which came last in this order)"
    private static void whyItWasLess() {
        PumpDesk desk = new PumpDesk();
        desk.slot(0, 0, 1000);
        desk.limits(100, 300, 70, 1);
        int[] grams = {0, 49, 99, 100, 101, 101, 0, 1, 101};
        int[] parts = {0, 0, 50, 100, 100, 50, 0, 0, 0};
        int[] whys = {0, 0, 0, 0, 1, 2, 0, 2, 2};
        for (int k = 0; k < grams.length; k++) {
            desk.give(0, grams[k]);
            Due.is("dose " + k + " of " + grams[k], desk.dose(k, 1), parts[k]);
            Due.is("M of dose " + k, desk.dose(k, 2), grams[k]);
            Due.is("why dose " + k + " was less", desk.dose(k, 5), whys[k]);
        }
        PumpDesk same = new PumpDesk();
        same.limits(1000, 1000, 70, 1);
        same.give(0, 20);
        Due.is("the day leaves as much as the greatest dose", same.dose(0, 5), 1);
        PumpDesk ofDay = new PumpDesk();
        ofDay.limits(1001, 1000, 70, 1);
        ofDay.give(0, 20);
        Due.is("the day leaves one part less", ofDay.dose(0, 5), 2);
        PumpDesk held = new PumpDesk();
        held.limits(1000, 500, 70, 1);
        held.reading(0, 70);
        held.give(0, 20);
        Due.is("held behind both", held.dose(0, 5), 3);
        held.give(0, 7);
        Due.is("held alone", held.dose(1, 5), 3);
        held.give(0, 6);
        Due.is("held, but M + X is 0", held.dose(2, 5), 0);
        held.give(0, 5);
        Due.is("held, but M + X is below 0", held.dose(3, 5), 0);
    }

    // "NONE (which X may be, too)"
    private static void xMayBeNone() {
        PumpDesk desk = new PumpDesk();
        desk.slot(1, 0, 1000);
        desk.reading(0, 99);
        desk.give(0, 1);
        dueDose("an X of -1", desk, 0, 0, 50, 100, -1, 0, 0);
    }

    /** As much as 512 calls can bring together: no sum runs over. */
    private static void greatestNumbers() {
        PumpDesk desk = new PumpDesk();
        desk.slot(0, 0, 1);
        desk.slot(4, 0, 20000);
        desk.limits(100000, 1000000, 70, 2);
        for (int k = 0; k < 10; k++) {
            desk.give(0, 1000);
        }
        Due.is("a million at work", desk.work(), 1000000);
        desk.ask(1440, 0);
        Due.is("the flow of a day", desk.spent(0, 0), 480000);
        Due.is("both of a day", desk.spent(0, 2), 1480000);
        Due.is("less is left of the next day", desk.ask(2879, 1000), 100000);
        Due.is("its flow", desk.spent(1, 0), 1439 * 20000 / 60);
    }
}
