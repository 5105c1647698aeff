/** For each promise of the document: ordinary inputs, the edges that it names, and wrong inputs. */
public final class PromiseTests {
    private static final int NONE = PumpDesk.NONE;
    private static final int LOWEST = Integer.MIN_VALUE;
    private static final int HIGHEST = Integer.MAX_VALUE;

    public static void main(String[] args) {
        promise1NewObject();
        promise2Slot();
        promise2NinthSlot();
        promise3Value();
        promise4Decay();
        promise4DecayOfDosesGiven();
        promise5Limits();
        promise5LimitsLeaveThePumpAsItWas();
        promise6ReadingHoldsAndGoesOn();
        promise6WrongReadings();
        promise7AskMeal();
        promise7AskCorrection();
        promise7AskFreshReading();
        promise7AskRoundings();
        promise7AskLimits();
        promise7AskByTheMinuteOfTheDay();
        promise7WrongAsks();
        promise8Give();
        promise8TwoHundredDoses();
        promise9Now();
        promise10Work();
        promise11SpentFlow();
        promise11SpentFlowWhileHeld();
        promise11SpentDoses();
        promise12Held();
        promise13Ticks();
        promise14Dose();
        promise14DoseWhy();
        promise14DoseX();
        promise14DoseWhyHeld();
        promise14DoseWhyByOnePart();
        promise15Doses();
        promise16Last();
        Due.end();
    }

    private static void promise1NewObject() {
        PumpDesk desk = new PumpDesk();
        int[] values = {10, 50, 100, 120, 0};
        for (int kind = 0; kind < 5; kind++) {
            Due.is("1: value at midnight", desk.value(kind, 0), values[kind]);
            Due.is("1: value at the end", desk.value(kind, 1439), values[kind]);
        }
        Due.is("1: now", desk.now(), 0);
        Due.is("1: work", desk.work(), 0);
        Due.is("1: held", desk.held(), false);
        Due.is("1: ticks", desk.ticks(), 0);
        Due.is("1: doses", desk.doses(), 0);
        Due.is("1: dose 0", desk.dose(0, 0), NONE);
        Due.is("1: last value", desk.last(0), NONE);
        Due.is("1: last minute", desk.last(1), NONE);
        for (int day = 0; day < 70; day++) {
            Due.is("1: spent", desk.spent(day, 2), 0);
        }
        Due.is("1: greatest dose", desk.ask(0, 1000), 10000);
        desk.limits(100000, 50000, 70, 2);
        Due.is("1: greatest day", desk.ask(0, 1000), 50000);
        PumpDesk other = new PumpDesk();
        other.slot(0, 0, 20);
        Due.is("1: objects are apart", desk.value(0, 0), 10);
    }

    private static void promise2Slot() {
        PumpDesk desk = new PumpDesk();
        int[] wrongNumbers = {-1, LOWEST, HIGHEST};
        for (int wrong : wrongNumbers) {
            Due.is("2: wrong kind", desk.slot(wrong, 0, 1), false);
            Due.is("2: wrong start", desk.slot(0, wrong, 1), false);
            Due.is("2: wrong value", desk.slot(0, 0, wrong), false);
            Due.is("2: wrong flow", desk.slot(4, 0, wrong), false);
        }
        Due.is("2: kind 5", desk.slot(5, 0, 1), false);
        Due.is("2: start 1440", desk.slot(0, 1440, 1), false);
        for (int kind = 0; kind < 4; kind++) {
            Due.is("2: value 0", desk.slot(kind, 0, 0), false);
            Due.is("2: value 1001", desk.slot(kind, 0, 1001), false);
            Due.is("2: value 1", desk.slot(kind, 0, 1), true);
            Due.is("2: value 1000", desk.slot(kind, 1439, 1000), true);
            Due.is("2: the first counts", desk.value(kind, 1438), 1);
            Due.is("2: the second counts", desk.value(kind, 1439), 1000);
        }
        Due.is("2: flow 20001", desk.slot(4, 0, 20001), false);
        Due.is("2: no flow was told", desk.value(4, 0), 0);
        Due.is("2: flow 20000", desk.slot(4, 0, 20000), true);
        Due.is("2: flow counts", desk.value(4, 0), 20000);
        Due.is("2: flow 0", desk.slot(4, 0, 0), true);
        Due.is("2: flow is replaced", desk.value(4, 0), 0);
    }

    private static void promise2NinthSlot() {
        PumpDesk desk = new PumpDesk();
        int[] starts = {700, 0, 300, 100, 600, 200, 500, 400};
        for (int start : starts) {
            Due.is("2: one of eight", desk.slot(2, start, 10 + start / 100), true);
        }
        Due.is("2: the ninth behind", desk.slot(2, 800, 99), false);
        Due.is("2: the ninth between", desk.slot(2, 350, 99), false);
        for (int start = 0; start < 1400; start += 100) {
            int want = 10 + Math.min(7, start / 100);
            Due.is("2: of eight, at " + start, desk.value(2, start), want);
            Due.is("2: of eight, behind " + start, desk.value(2, start + 99), want);
        }
        Due.is("2: one of eight is replaced", desk.slot(2, 300, 77), true);
        Due.is("2: before the replaced one", desk.value(2, 299), 12);
        Due.is("2: the replaced one", desk.value(2, 300), 77);
        Due.is("2: behind the replaced one", desk.value(2, 400), 14);
        Due.is("2: the first of eight is replaced", desk.slot(2, 0, 66), true);
        Due.is("2: the replaced first one", desk.value(2, 99), 66);
        Due.is("2: the last one stays", desk.value(2, 1439), 17);
        Due.is("2: kinds are apart", desk.slot(3, 800, 99), true);
    }

    private static void promise3Value() {
        PumpDesk desk = new PumpDesk();
        int[] wrongKinds = {-1, 5, LOWEST, HIGHEST};
        for (int kind : wrongKinds) {
            Due.is("3: no such kind", desk.value(kind, 0), NONE);
        }
        int[] wrongMinutes = {-1, 1440, LOWEST, HIGHEST};
        for (int minute : wrongMinutes) {
            Due.is("3: no such minute", desk.value(0, minute), NONE);
        }
        desk.slot(1, 600, 30);
        Due.is("3: one slot, before it", desk.value(1, 0), 30);
        Due.is("3: one slot, at it", desk.value(1, 600), 30);
        desk.slot(1, 300, 20);
        Due.is("3: the last one before the first", desk.value(1, 299), 30);
        Due.is("3: the first begins", desk.value(1, 300), 20);
        Due.is("3: the first ends", desk.value(1, 599), 20);
        Due.is("3: the last one", desk.value(1, 1439), 30);
        desk.slot(1, 0, 10);
        Due.is("3: from midnight on", desk.value(1, 0), 10);
    }

    private static void promise4Decay() {
        PumpDesk desk = new PumpDesk();
        int[] wrongShares = {-1, 33, LOWEST, HIGHEST};
        for (int k : wrongShares) {
            Due.is("4: no share " + k, desk.decay(k, 0), false);
        }
        Due.is("4: share of 1001", desk.decay(0, 1001), false);
        Due.is("4: share of -1", desk.decay(32, -1), false);
        Due.is("4: lowest share", desk.decay(32, LOWEST), false);
        Due.is("4: highest share", desk.decay(0, HIGHEST), false);
        Due.is("4: share 0 below the one behind", desk.decay(0, 959), false);
        Due.is("4: share 0 as the one behind", desk.decay(0, 960), true);
        Due.is("4: share 1 above the one before", desk.decay(1, 961), false);
        Due.is("4: share 0 whole", desk.decay(0, 1000), true);
        Due.is("4: share 10 above the one before", desk.decay(10, 641), false);
        Due.is("4: share 10 as the one before", desk.decay(10, 640), true);
        Due.is("4: share 10 below the one behind", desk.decay(10, 559), false);
        Due.is("4: share 10 as the one behind", desk.decay(10, 560), true);
        Due.is("4: share 24 below share 25", desk.decay(24, -1), false);
        Due.is("4: share 24 nothing", desk.decay(24, 0), true);
        Due.is("4: share 32 above the one before", desk.decay(32, 1), false);
        for (int k = 24; k <= 32; k++) {
            Due.is("4: share " + k + " of 40", desk.decay(k, 40), true);
        }
        Due.is("4: share 32 nothing", desk.decay(32, 0), true);
    }

    private static void promise4DecayOfDosesGiven() {
        PumpDesk desk = new PumpDesk();
        desk.give(0, 100);
        Due.is("4: whole", desk.work(), 10000);
        desk.decay(0, 970);
        Due.is("4: the table counts for doses given before", desk.work(), 9700);
        desk.decay(0, 900);
        Due.is("4: a false call changes nothing", desk.work(), 9700);
        for (int k = 1; k <= 32; k++) {
            desk.decay(k, 960);
        }
        desk.ask(32 * 15 + 14, 0);
        Due.is("4: at the end of share 32", desk.work(), 9600);
        desk.ask(33 * 15, 0);
        Due.is("4: beyond share 32", desk.work(), 0);
    }

    private static void promise5Limits() {
        PumpDesk desk = new PumpDesk();
        desk.limits(300, 1000, 80, 3);
        Due.is("5: dose -1", desk.limits(-1, 0, 1, 1), false);
        Due.is("5: dose 100001", desk.limits(100001, 0, 1, 1), false);
        Due.is("5: day -1", desk.limits(0, -1, 1, 1), false);
        Due.is("5: day 1000001", desk.limits(0, 1000001, 1, 1), false);
        Due.is("5: threshold 0", desk.limits(0, 0, 0, 1), false);
        Due.is("5: threshold 401", desk.limits(0, 0, 401, 1), false);
        Due.is("5: ticks 0", desk.limits(0, 0, 1, 0), false);
        Due.is("5: ticks 21", desk.limits(0, 0, 1, 21), false);
        Due.is("5: lowest", desk.limits(LOWEST, LOWEST, LOWEST, LOWEST), false);
        Due.is("5: highest", desk.limits(HIGHEST, HIGHEST, HIGHEST, HIGHEST), false);
        Due.is("5: dose as before", desk.ask(0, 1000), 300);
        Due.is("5: threshold as before, above", desk.reading(0, 81), 0);
        Due.is("5: threshold as before", desk.reading(0, 80), 1);
        Due.is("5: ticks as before, first", desk.reading(0, 81), 1);
        Due.is("5: ticks as before, second", desk.reading(0, 81), 1);
        Due.is("5: ticks as before, third", desk.reading(0, 81), 0);
        Due.is("5: least", desk.limits(0, 0, 1, 1), true);
        Due.is("5: nothing for a dose", desk.ask(0, 1000), 0);
        Due.is("5: threshold 1", desk.reading(0, 1), 1);
        Due.is("5: one tick", desk.reading(0, 2), 0);
        Due.is("5: most", desk.limits(100000, 1000000, 400, 20), true);
        desk.slot(0, 0, 1);
        Due.is("5: greatest dose of all", desk.ask(20, 1000), 100000);
        Due.is("5: threshold 400", desk.reading(20, 401), 0);
        Due.is("5: held at 400", desk.reading(20, 400), 1);
        for (int tick = 1; tick < 20; tick++) {
            Due.is("5: tick " + tick + " of 20", desk.reading(20, 401), 1);
        }
        Due.is("5: tick 20 of 20", desk.reading(20, 401), 0);
    }

    private static void promise5LimitsLeaveThePumpAsItWas() {
        PumpDesk desk = new PumpDesk();
        desk.reading(0, 100);
        desk.limits(10000, 50000, 200, 5);
        Due.is("5: not held as it was", desk.held(), false);
        desk.reading(0, 150);
        Due.is("5: held by the new threshold", desk.held(), true);
        desk.reading(0, 201);
        desk.reading(0, 201);
        desk.reading(0, 201);
        desk.limits(10000, 50000, 70, 2);
        Due.is("5: held as it was", desk.held(), true);
        Due.is("5: ticks as they were", desk.ticks(), 3);
        Due.is("5: goes on at the next one", desk.reading(0, 71), 0);
    }

    private static void promise6ReadingHoldsAndGoesOn() {
        PumpDesk desk = new PumpDesk();
        Due.is("6: above", desk.reading(0, 71), 0);
        Due.is("6: at the threshold", desk.reading(5, 70), 1);
        Due.is("6: one above", desk.reading(10, 71), 1);
        Due.is("6: low again", desk.reading(15, 1), 1);
        Due.is("6: one above again", desk.reading(20, 1000), 1);
        Due.is("6: two above", desk.reading(20, 71), 0);
        Due.is("6: once more above", desk.reading(20, 71), 0);
        Due.is("6: time went on", desk.now(), 20);
    }

    private static void promise6WrongReadings() {
        PumpDesk desk = new PumpDesk();
        desk.slot(4, 0, 60);
        desk.reading(100, 90);
        int[] wrongMinutes = {99, 0, -1, 2981, 100001, LOWEST, HIGHEST};
        for (int minute : wrongMinutes) {
            Due.is("6: wrong minute " + minute, desk.reading(minute, 60), NONE);
        }
        int[] wrongValues = {0, -1, 1001, LOWEST, HIGHEST};
        for (int g : wrongValues) {
            Due.is("6: wrong value " + g, desk.reading(200, g), NONE);
        }
        Due.is("6: now as before", desk.now(), 100);
        Due.is("6: flow as before", desk.spent(0, 0), 100);
        Due.is("6: not held", desk.held(), false);
        Due.is("6: last value as before", desk.last(0), 90);
        Due.is("6: last minute as before", desk.last(1), 100);
        Due.is("6: at now", desk.reading(100, 1000), 0);
        Due.is("6: 2880 behind now", desk.reading(2980, 1), 1);
        for (int minute = 2980 + 2880; minute <= 100000; minute += 2880) {
            desk.reading(minute, 1);
        }
        Due.is("6: close to the end", desk.now(), 98020);
        Due.is("6: above 100000", desk.reading(100001, 100), NONE);
        Due.is("6: at 100000", desk.reading(100000, 100), 1);
    }

    private static void promise7AskMeal() {
        PumpDesk desk = new PumpDesk();
        Due.is("7: no meal", desk.ask(0, 0), 0);
        Due.is("7: a meal", desk.ask(0, 40), 4000);
        desk.slot(0, 0, 12);
        Due.is("7: a meal, rounded down to 50s", desk.ask(0, 40), 3300);
        desk.reading(0, 70);
        Due.is("7: held", desk.ask(0, 40), 0);
    }

    private static void promise7AskCorrection() {
        PumpDesk desk = new PumpDesk();
        desk.reading(0, 300);
        Due.is("7: above", desk.ask(0, 0), 3600);
        Due.is("7: above, and a meal", desk.ask(0, 10), 4600);
        desk.give(0, 10);
        Due.is("7: less what is at work", desk.ask(0, 0), 0);
        Due.is("7: at work takes nothing from the meal", desk.ask(0, 10), 1000);
        desk.reading(15, 360);
        Due.is("7: the rest of what is at work", desk.ask(15, 0), 350);
        desk.reading(16, 120);
        Due.is("7: at the greatest", desk.ask(16, 10), 1000);
        desk.reading(17, 100);
        Due.is("7: at the least", desk.ask(17, 10), 1000);
        desk.reading(18, 80);
        Due.is("7: below", desk.ask(18, 10), 600);
        Due.is("7: below, not less than 0", desk.ask(18, 3), 0);
    }

    private static void promise7AskFreshReading() {
        PumpDesk desk = new PumpDesk();
        desk.reading(0, 220);
        Due.is("7: 15 minutes before", desk.ask(15, 0), 2000);
        Due.is("7: 16 minutes before", desk.ask(16, 0), 0);
        desk.reading(20, 80);
        Due.is("7: below, 15 minutes before", desk.ask(35, 10), 600);
        Due.is("7: below, 16 minutes before", desk.ask(36, 10), 1000);
        desk.reading(40, 320);
        desk.reading(40, 170);
        Due.is("7: the latest of a minute", desk.ask(40, 0), 1000);
    }

    private static void promise7AskRoundings() {
        PumpDesk desk = new PumpDesk();
        desk.slot(1, 0, 30);
        desk.reading(0, 129);
        Due.is("7: 9 above by 30", desk.ask(0, 0), 300);
        desk.reading(0, 99);
        desk.give(0, 1);
        Due.is("7: 1 below by 30 is rounded up", desk.dose(0, 3), -34);
        Due.is("7: 66 is rounded down to 50", desk.dose(0, 1), 50);
        desk.reading(0, 122);
        desk.give(0, 0);
        Due.is("7: 2 above by 30 is rounded down, less 50", desk.dose(1, 3), 16);
        desk.slot(0, 0, 7);
        desk.give(0, 1);
        Due.is("7: a gram by 7", desk.dose(2, 2), 142);
    }

    private static void promise7AskLimits() {
        PumpDesk desk = new PumpDesk();
        desk.limits(1049, 50000, 70, 2);
        Due.is("7: the greatest dose is rounded, too", desk.ask(0, 100), 1000);
        desk.limits(10000, 2049, 70, 2);
        Due.is("7: the day is rounded, too", desk.ask(0, 100), 2000);
        desk.give(0, 12);
        Due.is("7: what is left of the day", desk.ask(0, 100), 800);
        desk.limits(10000, 1000, 70, 2);
        Due.is("7: less than nothing is left", desk.ask(0, 100), 0);
        Due.is("7: another day", desk.ask(1440, 100), 1000);
        desk.slot(4, 0, 600);
        Due.is("7: flow takes from the day", desk.ask(1450, 100), 900);
        desk.slot(2, 0, 200);
        desk.slot(3, 0, 100);
        desk.limits(10000, 50000, 70, 2);
        desk.reading(1450, 150);
        Due.is("7: above comes before below", desk.ask(1450, 0), 1000);
    }

    private static void promise7AskByTheMinuteOfTheDay() {
        PumpDesk desk = new PumpDesk();
        desk.slot(0, 0, 10);
        desk.slot(0, 60, 20);
        desk.slot(1, 0, 50);
        desk.slot(1, 60, 100);
        desk.slot(2, 0, 100);
        desk.slot(2, 60, 90);
        desk.slot(3, 0, 120);
        desk.slot(3, 60, 140);
        desk.reading(59, 240);
        Due.is("7: before the slots", desk.ask(59, 10), 1000 + 2400);
        Due.is("7: in the slots", desk.ask(60, 10), 500 + 1000);
        desk.reading(1499, 80);
        Due.is("7: before the slots of the next day", desk.ask(1499, 10), 1000 - 400);
        Due.is("7: in the slots of the next day", desk.ask(1500, 10), 500 - 100);
    }

    private static void promise7WrongAsks() {
        PumpDesk desk = new PumpDesk();
        desk.slot(4, 0, 60);
        Due.is("7: goes on", desk.ask(100, 1000), 10000);
        Due.is("7: now", desk.now(), 100);
        Due.is("7: flow", desk.spent(0, 0), 100);
        Due.is("7: no dose", desk.doses(), 0);
        int[] wrongMinutes = {99, -1, 2981, 100001, LOWEST, HIGHEST};
        for (int minute : wrongMinutes) {
            Due.is("7: wrong minute " + minute, desk.ask(minute, 10), NONE);
        }
        int[] wrongCarbs = {-1, 1001, LOWEST, HIGHEST};
        for (int carbs : wrongCarbs) {
            Due.is("7: wrong carbs " + carbs, desk.ask(200, carbs), NONE);
        }
        Due.is("7: now as before", desk.now(), 100);
        Due.is("7: flow as before", desk.spent(0, 0), 100);
        Due.is("7: 2880 behind now", desk.ask(2980, 0), 0);
    }

    private static void promise8Give() {
        PumpDesk desk = new PumpDesk();
        desk.slot(4, 0, 60);
        Due.is("8: a dose", desk.give(100, 43), 4300);
        Due.is("8: now", desk.now(), 100);
        Due.is("8: at work", desk.work(), 4300);
        Due.is("8: counts for the day", desk.spent(0, 2), 4400);
        Due.is("8: a dose of 0", desk.give(100, 0), 0);
        Due.is("8: is one, too", desk.doses(), 2);
        int[] wrongMinutes = {99, -1, 2981, 100001, LOWEST, HIGHEST};
        for (int minute : wrongMinutes) {
            Due.is("8: wrong minute " + minute, desk.give(minute, 10), NONE);
        }
        int[] wrongCarbs = {-1, 1001, LOWEST, HIGHEST};
        for (int carbs : wrongCarbs) {
            Due.is("8: wrong carbs " + carbs, desk.give(200, carbs), NONE);
        }
        Due.is("8: now as before", desk.now(), 100);
        Due.is("8: doses as before", desk.doses(), 2);
        desk.reading(100, 60);
        Due.is("8: held", desk.give(100, 50), 0);
        Due.is("8: the dose of a held pump is one", desk.doses(), 3);
    }

    private static void promise8TwoHundredDoses() {
        PumpDesk desk = new PumpDesk();
        desk.slot(4, 0, 60);
        for (int k = 0; k < 200; k++) {
            Due.is("8: dose " + k, desk.give(k, k % 2), k % 2 * 100);
        }
        Due.is("8: dose 200", desk.give(300, 1), NONE);
        Due.is("8: there are 200", desk.doses(), 200);
        Due.is("8: now as before", desk.now(), 199);
        Due.is("8: spent as before", desk.spent(0, 2), 199 + 10000);
        Due.is("8: the last one", desk.dose(199, 0), 199);
        Due.is("8: no dose 200", desk.dose(200, 0), NONE);
        Due.is("8: ask goes on", desk.ask(300, 1), 100);
    }

    private static void promise9Now() {
        PumpDesk desk = new PumpDesk();
        desk.reading(10, 100);
        Due.is("9: by a reading", desk.now(), 10);
        desk.ask(20, 0);
        Due.is("9: by ask", desk.now(), 20);
        desk.give(30, 0);
        Due.is("9: by give", desk.now(), 30);
        desk.reading(30, 60);
        desk.ask(2910, 0);
        Due.is("9: held", desk.now(), 2910);
        desk.slot(0, 5, 5);
        desk.decay(0, 1000);
        desk.limits(1, 1, 1, 1);
        Due.is("9: by no other", desk.now(), 2910);
    }

    private static void promise10Work() {
        PumpDesk desk = new PumpDesk();
        desk.give(0, 10);
        for (int k = 0; k < 40; k++) {
            int want = Math.max(0, 1000 - k * 40);
            desk.ask(k * 15, 0);
            Due.is("10: share " + k + " begins", desk.work(), want);
            desk.ask(k * 15 + 14, 0);
            Due.is("10: share " + k + " ends", desk.work(), want);
        }
        PumpDesk two = new PumpDesk();
        two.decay(0, 999);
        two.limits(150, 50000, 70, 2);
        two.give(0, 100);
        two.give(0, 100);
        Due.is("10: each is rounded by itself", two.work(), 149 + 149);
        two.slot(4, 0, 20000);
        two.ask(14, 0);
        Due.is("10: the steady flow is not at work", two.work(), 298);
        two.ask(15, 0);
        Due.is("10: share 1", two.work(), 144 + 144);
    }

    private static void promise11SpentFlow() {
        PumpDesk desk = new PumpDesk();
        desk.slot(4, 60, 7);
        desk.slot(4, 0, 61);
        desk.ask(59, 0);
        Due.is("11: 59 minutes of 61", desk.spent(0, 0), 59);
        desk.ask(60, 0);
        Due.is("11: an hour of 61", desk.spent(0, 0), 61);
        desk.ask(68, 0);
        Due.is("11: 8 minutes of 7", desk.spent(0, 0), 61);
        desk.ask(69, 0);
        Due.is("11: 9 minutes of 7", desk.spent(0, 0), 62);
        desk.ask(1440, 0);
        Due.is("11: a day", desk.spent(0, 0), 61 + 1380 * 7 / 60);
        Due.is("11: nothing on the next one", desk.spent(1, 0), 0);
        desk.ask(4320, 0);
        Due.is("11: two days in one step, the first", desk.spent(1, 0), 61 + 1380 * 7 / 60);
        Due.is("11: two days in one step, the second", desk.spent(2, 0), 61 + 1380 * 7 / 60);
        PumpDesk around = new PumpDesk();
        around.slot(4, 600, 120);
        around.ask(2880, 0);
        Due.is("11: the last slot before the first", around.spent(0, 0), 2880);
        Due.is("11: and on the day after", around.spent(1, 0), 2880);
        PumpDesk rest = new PumpDesk();
        rest.slot(4, 0, 59);
        rest.ask(1, 0);
        rest.slot(4, 0, 1);
        Due.is("11: the rest is carried", rest.spent(0, 0), 0);
        rest.ask(2, 0);
        Due.is("11: the rest flows", rest.spent(0, 0), 1);
        rest.slot(4, 0, 20000);
        rest.ask(1440, 0);
        Due.is("11: the most", rest.spent(0, 0), 1 + 1438 * 20000 / 60);
    }

    private static void promise11SpentFlowWhileHeld() {
        PumpDesk desk = new PumpDesk();
        desk.slot(4, 0, 90);
        desk.reading(3, 70);
        Due.is("11: up to the reading that holds", desk.spent(0, 0), 4);
        desk.ask(2000, 0);
        desk.reading(2000, 100);
        Due.is("11: nothing while held", desk.spent(0, 0), 4);
        desk.reading(2001, 100);
        Due.is("11: nothing up to the reading that goes on", desk.spent(1, 0), 0);
        desk.ask(2002, 0);
        Due.is("11: the rest stayed", desk.spent(1, 0), 2);
        int[] wrongDays = {-1, 70, LOWEST, HIGHEST};
        for (int day : wrongDays) {
            Due.is("11: wrong day " + day, desk.spent(day, 0), NONE);
        }
        int[] wrongWhats = {-1, 3, LOWEST, HIGHEST};
        for (int what : wrongWhats) {
            Due.is("11: wrong what " + what, desk.spent(0, what), NONE);
        }
        Due.is("11: day 69", desk.spent(69, 0), 0);
    }

    private static void promise11SpentDoses() {
        PumpDesk desk = new PumpDesk();
        desk.slot(4, 0, 60);
        desk.give(1439, 10);
        desk.give(1440, 20);
        desk.give(1441, 30);
        Due.is("11: doses of day 0", desk.spent(0, 1), 1000);
        Due.is("11: doses of day 1", desk.spent(1, 1), 5000);
        Due.is("11: both of day 0", desk.spent(0, 2), 1000 + 1440);
        Due.is("11: both of day 1", desk.spent(1, 2), 5000 + 1);
        for (int minute = 2880; minute <= 97920; minute += 2880) {
            desk.ask(minute, 0);
        }
        desk.give(100000, 10);
        Due.is("11: flow of day 68", desk.spent(68, 0), 1440);
        Due.is("11: flow of day 69", desk.spent(69, 0), 100000 - 69 * 1440);
        Due.is("11: doses of day 69", desk.spent(69, 1), 1000);
    }

    private static void promise12Held() {
        PumpDesk desk = new PumpDesk();
        desk.reading(0, 71);
        Due.is("12: above", desk.held(), false);
        desk.reading(1, 70);
        Due.is("12: at the threshold", desk.held(), true);
        desk.ask(500, 0);
        desk.give(500, 0);
        Due.is("12: time alone does not let it go on", desk.held(), true);
        desk.reading(501, 71);
        Due.is("12: after one above", desk.held(), true);
        desk.reading(502, 71);
        Due.is("12: after two above", desk.held(), false);
        desk.reading(503, 69);
        Due.is("12: below", desk.held(), true);
    }

    private static void promise13Ticks() {
        PumpDesk desk = new PumpDesk();
        desk.limits(10000, 50000, 70, 3);
        desk.reading(0, 100);
        desk.reading(0, 100);
        Due.is("13: not held", desk.ticks(), 0);
        desk.reading(0, 70);
        Due.is("13: held", desk.ticks(), 0);
        desk.reading(1, 71);
        Due.is("13: one", desk.ticks(), 1);
        desk.reading(1, 71);
        Due.is("13: two", desk.ticks(), 2);
        desk.reading(1, 2000);
        Due.is("13: a wrong one does not count", desk.ticks(), 2);
        desk.reading(2, 70);
        Due.is("13: another low one", desk.ticks(), 0);
        desk.reading(3, 71);
        desk.reading(3, 71);
        Due.is("13: from the low one on", desk.ticks(), 2);
        desk.reading(3, 71);
        Due.is("13: it goes on", desk.ticks(), 0);
        desk.reading(3, 71);
        Due.is("13: not held any more", desk.ticks(), 0);
    }

    private static void dueDose(String call, PumpDesk desk, int k, int... wants) {
        for (int what = 0; what < 6; what++) {
            Due.is(call + ", what = " + what, desk.dose(k, what), wants[what]);
        }
    }

    private static void promise14Dose() {
        PumpDesk desk = new PumpDesk();
        desk.slot(0, 0, 12);
        desk.give(60, 40);
        dueDose("14: a meal", desk, 0, 60, 3300, 3333, 0, 0, 0);
        desk.reading(75, 300);
        desk.give(75, 0);
        dueDose("14: a high reading", desk, 1, 75, 400, 0, 432, 3168, 0);
        desk.reading(76, 80);
        desk.give(77, 1);
        dueDose("14: a low reading", desk, 2, 77, 0, 83, -400, 3568, 0);
        desk.slot(1, 0, 1000);
        desk.reading(78, 99);
        desk.give(78, 12);
        dueDose("14: X is NONE by chance", desk, 3, 78, 950, 1000, -1, 3568, 0);
        dueDose("14: the first one stays", desk, 0, 60, 3300, 3333, 0, 0, 0);
        int[] wrongDoses = {-1, 4, 199, 200, LOWEST, HIGHEST};
        for (int k : wrongDoses) {
            Due.is("14: no dose " + k, desk.dose(k, 0), NONE);
        }
        int[] wrongWhats = {-1, 6, LOWEST, HIGHEST};
        for (int what : wrongWhats) {
            Due.is("14: wrong what " + what, desk.dose(0, what), NONE);
        }
    }

    private static void promise14DoseWhy() {
        PumpDesk desk = new PumpDesk();
        desk.limits(1000, 3000, 70, 1);
        desk.give(0, 10);
        Due.is("14: as much as the greatest dose", desk.dose(0, 5), 0);
        desk.give(0, 11);
        Due.is("14: the greatest dose", desk.dose(1, 5), 1);
        desk.give(0, 11);
        Due.is("14: the greatest dose, and as much is left", desk.dose(2, 5), 1);
        Due.is("14: all of the day was given", desk.spent(0, 2), 3000);
        desk.give(0, 11);
        Due.is("14: the day behind the greatest dose", desk.dose(3, 5), 2);
        desk.give(0, 1);
        Due.is("14: the day alone", desk.dose(4, 5), 2);
        desk.give(0, 0);
        Due.is("14: nothing wanted", desk.dose(5, 5), 0);
        desk.reading(0, 71);
        desk.give(0, 1);
        Due.is("14: below 0", desk.dose(6, 5), 0);
        desk.slot(0, 0, 1000);
        desk.give(1440, 49);
        Due.is("14: rounding", desk.dose(7, 5), 0);
        Due.is("14: rounded to nothing", desk.dose(7, 1), 0);
        desk.slot(0, 0, 10);
        desk.limits(5000, 3000, 70, 1);
        desk.give(1440, 40);
        Due.is("14: the day within the greatest dose", desk.dose(8, 5), 2);
        desk.limits(0, 1000000, 70, 1);
        desk.give(1440, 1);
        Due.is("14: no dose at all", desk.dose(9, 5), 1);
    }

    private static void promise14DoseX() {
        PumpDesk desk = new PumpDesk();
        int[] readings = {99, 100, 101, 119, 120, 121};
        int[] wants = {-20, 0, 0, 0, 0, 20};
        for (int k = 0; k < readings.length; k++) {
            desk.reading(0, readings[k]);
            desk.give(0, 0);
            Due.is("14: X of " + readings[k], desk.dose(k, 3), wants[k]);
        }
        desk.give(0, 10);
        desk.give(0, 10);
        Due.is("14: X when more is at work", desk.dose(7, 3), 0);
        desk.slot(1, 0, 3);
        desk.reading(0, 99);
        desk.give(0, 10);
        Due.is("14: X rounded up from a third", desk.dose(8, 3), -334);
        desk.slot(1, 0, 8);
        desk.give(0, 10);
        Due.is("14: X with nothing to round", desk.dose(9, 3), -125);
        desk.slot(2, 0, 200);
        desk.slot(3, 0, 100);
        desk.reading(0, 100);
        desk.give(0, 0);
        Due.is("14: X at a greatest that is below the least", desk.dose(10, 3), -12500);
        desk.give(16, 0);
        Due.is("14: X without a fresh reading", desk.dose(11, 3), 0);
    }

    private static void promise14DoseWhyHeld() {
        PumpDesk desk = new PumpDesk();
        desk.reading(0, 70);
        desk.give(0, 40);
        dueDose("14: held", desk, 0, 0, 0, 4000, -600, 0, 3);
        desk.give(0, 1000);
        Due.is("14: held, behind the others", desk.dose(1, 5), 3);
        desk.give(0, 0);
        Due.is("14: held, but below 0 anyway", desk.dose(2, 5), 0);
        desk.give(0, 6);
        Due.is("14: held, but 0 anyway", desk.dose(3, 5), 0);
        desk.limits(0, 0, 70, 2);
        desk.give(0, 40);
        Due.is("14: held comes last", desk.dose(4, 5), 3);
    }

    /** A reading of 121 wants a single part here: rounding hides it, but the reason tells. */
    private static void promise14DoseWhyByOnePart() {
        PumpDesk desk = new PumpDesk();
        desk.slot(1, 0, 1000);
        desk.reading(0, 121);
        desk.give(0, 100);
        dueDose("14: a part above the greatest dose at first", desk, 0, 0, 10000, 10000, 1, 0, 1);
        PumpDesk ofDay = new PumpDesk();
        ofDay.slot(1, 0, 1000);
        for (int k = 0; k < 5; k++) {
            Due.is("14: a fifth of the day at first", ofDay.give(0, 100), 10000);
        }
        ofDay.reading(500, 121);
        ofDay.give(500, 0);
        dueDose("14: nothing is left for a part", ofDay, 5, 500, 0, 0, 1, 0, 2);
        ofDay.reading(500, 70);
        ofDay.reading(500, 121);
        ofDay.give(500, 0);
        dueDose("14: a part of a held pump", ofDay, 6, 500, 0, 0, 1, 0, 3);
    }

    private static void promise15Doses() {
        PumpDesk desk = new PumpDesk();
        desk.ask(0, 10);
        Due.is("15: ask gives none", desk.doses(), 0);
        desk.give(0, 10);
        desk.give(0, 0);
        Due.is("15: two", desk.doses(), 2);
        desk.give(0, -1);
        desk.give(-1, 0);
        Due.is("15: wrong ones are none", desk.doses(), 2);
    }

    private static void promise16Last() {
        PumpDesk desk = new PumpDesk();
        desk.reading(5, 200);
        Due.is("16: value", desk.last(0), 200);
        Due.is("16: minute", desk.last(1), 5);
        desk.reading(5, 60);
        Due.is("16: the later of one minute", desk.last(0), 60);
        desk.ask(500, 0);
        desk.give(600, 0);
        Due.is("16: an old one is the latest, too", desk.last(0), 60);
        Due.is("16: its minute", desk.last(1), 5);
        desk.reading(599, 100);
        desk.reading(600, 0);
        Due.is("16: wrong ones are none", desk.last(1), 5);
        int[] wrongWhats = {-1, 2, LOWEST, HIGHEST};
        for (int what : wrongWhats) {
            Due.is("16: wrong what " + what, desk.last(what), NONE);
        }
    }
}
