import java.util.ArrayList;
import java.util.List;
import java.util.function.Consumer;
import java.util.function.ToLongFunction;

/**
 * Two desks with one past: a call that is to be refused is made on the first of them alone. If it
 * changes anything, some later answer of the two differs.
 */
final class Twins {
    /** When the pasts end; 49 sixtieths of a part are carried then. */
    static final int NOW = 307;
    static final int THRESHOLD = 80;
    static final int TICKS = 3;

    private static final int[] MINUTES = {0, 59, 60, 299, 300, 719, 720, 1438, 1439};

    private final PumpDesk desk;
    private final List<Long> answers = new ArrayList<>();
    private int now = NOW;

    private Twins(PumpDesk desk) {
        this.desk = desk;
    }

    /** Not held, with slots in each kind, a dose at work and a fresh reading. */
    static void going(PumpDesk desk) {
        desk.slot(0, 60, 9);
        desk.slot(0, 720, 11);
        desk.slot(1, 300, 45);
        desk.slot(2, 300, 95);
        desk.slot(3, 300, 125);
        desk.slot(4, 0, 100);
        desk.slot(4, 300, 7);
        desk.decay(0, 990);
        desk.limits(6000, 20000, THRESHOLD, TICKS);
        desk.give(290, 30);
        desk.reading(NOW, 240);
    }

    /** As going(), but held, with one tick. */
    static void held(PumpDesk desk) {
        going(desk);
        desk.reading(NOW, THRESHOLD);
        desk.reading(NOW, THRESHOLD + 1);
    }

    /** As going(), but with as many doses as there may be. */
    static void full(PumpDesk desk) {
        going(desk);
        for (int k = 1; k < 200; k++) {
            desk.give(NOW, 0);
        }
    }

    /** Refused by a desk that is not held and by one that is. */
    static void refuseFalse(String call, ToLongFunction<PumpDesk> refused) {
        refuse(call + ", going", Twins::going, refused, 0);
        refuse(call + ", held", Twins::held, refused, 0);
    }

    static void refuseNone(String call, ToLongFunction<PumpDesk> refused) {
        refuse(call + ", going", Twins::going, refused, PumpDesk.NONE);
        refuse(call + ", held", Twins::held, refused, PumpDesk.NONE);
    }

    static void refuse(String call, Consumer<PumpDesk> past, ToLongFunction<PumpDesk> refused, long answer) {
        PumpDesk desk = new PumpDesk();
        PumpDesk twin = new PumpDesk();
        past.accept(desk);
        past.accept(twin);
        Due.is(call, refused.applyAsLong(desk), answer);
        List<Long> got = new Twins(desk).later();
        List<Long> want = new Twins(twin).later();
        for (int k = 0; k < want.size(); k++) {
            Due.is(call + ": answer " + k + " behind it", got.get(k), want.get(k));
        }
    }

    /** Calls that bring to light all that the desk holds; with the longest past they are below 512. */
    private List<Long> later() {
        look();
        profile();
        wanted();
        flow();
        holding();
        table();
        limits();
        look();
        return answers;
    }

    private void add(long answer) {
        answers.add(answer);
    }

    private void look() {
        add(desk.now());
        add(desk.work());
        add(desk.held() ? 1 : 0);
        add(desk.ticks());
        add(desk.last(0));
        add(desk.last(1));
        add(desk.spent(0, 0));
        add(desk.spent(0, 1));
        int doses = desk.doses();
        add(doses);
        for (int what = 0; what < 6; what++) {
            add(desk.dose(doses - 1, what));
        }
    }

    private void profile() {
        for (int kind = 0; kind < 5; kind++) {
            for (int minute : MINUTES) {
                add(desk.value(kind, minute));
            }
        }
    }

    private void wanted() {
        add(desk.ask(now, 0));
        add(desk.ask(now, 20));
        add(desk.ask(now, 1000));
    }

    private void flow() {
        for (int k = 0; k < 9; k++) {
            now++;
            add(desk.ask(now, 0));
            add(desk.spent(0, 0));
        }
    }

    private void holding() {
        int[] readings = {THRESHOLD + 1, THRESHOLD + 1, THRESHOLD};
        for (int g : readings) {
            add(desk.reading(now, g));
            add(desk.ticks());
        }
        for (int k = 0; k < TICKS; k++) {
            add(desk.reading(now, THRESHOLD + 1));
            add(desk.ticks());
        }
    }

    private void table() {
        add(desk.give(now, 100));
        for (int k = 0; k <= 33; k++) {
            add(desk.work());
            now += 15;
            add(desk.ask(now, 0));
        }
    }

    private void limits() {
        for (int k = 0; k < 5; k++) {
            add(desk.give(now, 1000));
        }
    }
}
