import java.util.ArrayList;
import java.util.List;
import java.util.TreeMap;

/**
 * Runs of mixed calls, each compared with a second telling of the document that takes the plainest
 * way: minute by minute, and with all doses in a list.
 */
public final class ModelTests {
    private static final int RUNS = 600;
    private static final int CALLS = 512;
    private static final int[] ODD = {
        Integer.MIN_VALUE, -2881, -1, 0, 1, 69, 70, 200, 1440, 2881, 100001, Integer.MAX_VALUE};

    private long seed;
    private final Model model = new Model();
    private final PumpDesk desk = new PumpDesk();
    /** A run of short steps keeps readings and doses close, one of long steps comes to the end. */
    private final int step;

    private ModelTests(int run) {
        seed = run * 7919L + 1;
        step = new int[] {3, 20, 200, 2880}[run % 4];
    }

    public static void main(String[] args) {
        for (int run = 0; run < RUNS && Due.wrong() < 20; run++) {
            ModelTests test = new ModelTests(run);
            for (int call = 0; call < CALLS && Due.wrong() < 20; call++) {
                test.oneCall("run " + run + ", call " + call + ": ");
            }
        }
        Due.end();
    }

    private int pick(int from, int to) {
        seed = seed * 6364136223846793005L + 1442695040888963407L;
        return from + (int) ((seed >>> 33) % (to - from + 1));
    }

    /** Mostly a number within, at times one at an edge or wrong. */
    private int near(int from, int to) {
        int way = pick(0, 39);
        if (way == 0) {
            return ODD[pick(0, ODD.length - 1)];
        }
        if (way == 1) {
            return from - pick(0, 1);
        }
        return way == 2 ? to + pick(0, 1) : pick(from, to);
    }

    private int minute() {
        int way = pick(0, 39);
        if (way == 0) {
            return ODD[pick(0, ODD.length - 1)];
        }
        if (way == 1) {
            return model.now - 1;
        }
        if (way == 2) {
            return model.now + 2880 + pick(0, 1);
        }
        return model.now + (way < 12 ? 0 : pick(0, step));
    }

    private int carbs() {
        return pick(0, 3) == 0 ? near(0, 1000) : pick(0, 30);
    }

    private int glucose() {
        int way = pick(0, 9);
        if (way == 0) {
            return near(1, 1000);
        }
        return way < 4 ? model.threshold + pick(-1, 1) : pick(60, 260);
    }

    private void oneCall(String where) {
        int way = pick(0, 99);
        if (way < 10) {
            slot(where);
        } else if (way < 14) {
            int k = near(0, 32);
            int share = pick(0, 1) == 0 ? near(0, 1000) : 1000 - 40 * k + pick(-41, 41);
            Due.is(where + "decay " + k + " " + share, desk.decay(k, share), model.decay(k, share));
        } else if (way < 17) {
            limits(where);
        } else if (way < 37) {
            int at = minute();
            int g = glucose();
            Due.is(where + "reading " + at + " " + g, desk.reading(at, g), model.reading(at, g));
        } else if (way < 47) {
            int at = minute();
            int c = carbs();
            Due.is(where + "ask " + at + " " + c, desk.ask(at, c), model.ask(at, c));
        } else if (way < 65) {
            int at = minute();
            int c = carbs();
            Due.is(where + "give " + at + " " + c, desk.give(at, c), model.give(at, c));
        } else {
            look(where, way);
        }
    }

    private void slot(String where) {
        int kind = pick(0, 2) == 0 ? 4 : near(0, 4);
        int start = pick(0, 1) == 0 ? near(0, 1439) : 120 * pick(0, 11);
        int value;
        if (kind == 4) {
            value = pick(0, 3) == 0 ? near(0, 20000) : pick(0, 130);
        } else {
            value = pick(0, 3) == 0 ? near(1, 1000) : pick(5, 150);
        }
        Due.is(where + "slot " + kind + " " + start + " " + value,
                desk.slot(kind, start, value), model.slot(kind, start, value));
    }

    private void limits(String where) {
        int dose = pick(0, 1) == 0 ? near(0, 100000) : pick(0, 3000);
        int day = pick(0, 1) == 0 ? near(0, 1000000) : pick(0, 20000);
        int threshold = pick(0, 2) == 0 ? near(1, 400) : pick(65, 90);
        int ticks = pick(0, 2) == 0 ? near(1, 20) : pick(1, 3);
        Due.is(where + "limits " + dose + " " + day + " " + threshold + " " + ticks,
                desk.limits(dose, day, threshold, ticks), model.limits(dose, day, threshold, ticks));
    }

    private void look(String where, int way) {
        if (way < 70) {
            int kind = near(0, 4);
            int at = near(0, 1439);
            Due.is(where + "value " + kind + " " + at, desk.value(kind, at), model.value(kind, at));
        } else if (way < 78) {
            int day = pick(0, 1) == 0 ? near(0, 69) : model.now / 1440;
            int what = near(0, 2);
            Due.is(where + "spent " + day + " " + what, desk.spent(day, what), model.spent(day, what));
        } else if (way < 88) {
            int k = pick(0, 1) == 0 ? near(0, 199) : model.doses.size() - 1;
            int what = near(0, 5);
            Due.is(where + "dose " + k + " " + what, desk.dose(k, what), model.dose(k, what));
        } else if (way < 91) {
            Due.is(where + "work", desk.work(), model.work());
        } else if (way < 93) {
            int what = near(0, 1);
            Due.is(where + "last " + what, desk.last(what), model.last(what));
        } else if (way < 95) {
            Due.is(where + "held", desk.held(), model.held);
        } else if (way < 97) {
            Due.is(where + "ticks", desk.ticks(), model.held ? model.above : 0);
        } else if (way < 99) {
            Due.is(where + "now", desk.now(), model.now);
        } else {
            Due.is(where + "doses", desk.doses(), model.doses.size());
        }
    }

    /** The document, told a second time. */
    private static final class Model {
        private static final int NONE = -1;
        private static final int[] FIRST = {10, 50, 100, 120, 0};

        private final List<TreeMap<Integer, Integer>> slots = new ArrayList<>();
        private final int[] table = new int[33];
        private final List<int[]> doses = new ArrayList<>();
        private final int[] flowed = new int[70];
        private int now = 0;
        private int carried = 0;
        private int greatestDose = 10000;
        private int greatestDay = 50000;
        private int threshold = 70;
        private int ticks = 2;
        private boolean held = false;
        private int above = 0;
        private int[] latest = null;

        private Model() {
            for (int kind = 0; kind < 5; kind++) {
                slots.add(new TreeMap<>());
            }
            for (int k = 0; k < 25; k++) {
                table[k] = 1000 - 40 * k;
            }
        }

        private boolean slot(int kind, int start, int value) {
            if (kind < 0 || kind > 4 || start < 0 || start > 1439) {
                return false;
            }
            if (kind == 4 ? value < 0 || value > 20000 : value < 1 || value > 1000) {
                return false;
            }
            TreeMap<Integer, Integer> row = slots.get(kind);
            if (row.size() == 8 && !row.containsKey(start)) {
                return false;
            }
            row.put(start, value);
            return true;
        }

        private int value(int kind, int minute) {
            if (kind < 0 || kind > 4 || minute < 0 || minute > 1439) {
                return NONE;
            }
            TreeMap<Integer, Integer> row = slots.get(kind);
            if (row.isEmpty()) {
                return FIRST[kind];
            }
            return row.floorKey(minute) == null
                    ? row.lastEntry().getValue()
                    : row.floorEntry(minute).getValue();
        }

        private boolean decay(int k, int share) {
            if (k < 0 || k > 32 || share < 0 || share > 1000) {
                return false;
            }
            if (k > 0 && share > table[k - 1] || k < 32 && share < table[k + 1]) {
                return false;
            }
            table[k] = share;
            return true;
        }

        private boolean limits(int dose, int day, int newThreshold, int newTicks) {
            if (dose < 0 || dose > 100000 || day < 0 || day > 1000000) {
                return false;
            }
            if (newThreshold < 1 || newThreshold > 400 || newTicks < 1 || newTicks > 20) {
                return false;
            }
            greatestDose = dose;
            greatestDay = day;
            threshold = newThreshold;
            ticks = newTicks;
            return true;
        }

        private boolean wrongMinute(int minute) {
            return minute < now || minute > 100000 || minute - now > 2880;
        }

        private void goOn(int minute) {
            for (; now < minute; now++) {
                if (!held) {
                    carried += value(4, now % 1440);
                    flowed[now / 1440] += carried / 60;
                    carried %= 60;
                }
            }
        }

        private int reading(int minute, int g) {
            if (wrongMinute(minute) || g < 1 || g > 1000) {
                return NONE;
            }
            goOn(minute);
            latest = new int[] {g, minute};
            above = g > threshold ? above + 1 : 0;
            if (g <= threshold) {
                held = true;
            } else if (above >= ticks) {
                held = false;
            }
            return held ? 1 : 0;
        }

        private long work() {
            long sum = 0;
            for (int[] dose : doses) {
                int k = (now - dose[0]) / 15;
                sum += k > 32 ? 0 : (long) dose[1] * table[k] / 1000;
            }
            return sum;
        }

        private long correction() {
            if (latest == null || now - latest[1] > 15) {
                return 0;
            }
            int at = now % 1440;
            long g = latest[0];
            if (g > value(3, at)) {
                return Math.max(0, (g - value(3, at)) * 1000 / value(1, at) - work());
            }
            if (g < value(2, at)) {
                return Math.floorDiv((g - value(2, at)) * 1000, (long) value(1, at));
            }
            return 0;
        }

        private int[] wanted(int carbs) {
            long meal = carbs * 1000L / value(0, now % 1440);
            long x = correction();
            long parts = Math.max(0, meal + x);
            int why = 0;
            if (parts > greatestDose) {
                parts = greatestDose;
                why = 1;
            }
            long left = Math.max(0, greatestDay - spent(now / 1440, 2));
            if (parts > left) {
                parts = left;
                why = 2;
            }
            parts = parts / 50 * 50;
            if (held) {
                parts = 0;
                why = meal + x > 0 ? 3 : why;
            }
            return new int[] {now, (int) parts, (int) meal, (int) x, (int) work(), why};
        }

        private int ask(int minute, int carbs) {
            if (wrongMinute(minute) || carbs < 0 || carbs > 1000) {
                return NONE;
            }
            goOn(minute);
            return wanted(carbs)[1];
        }

        private int give(int minute, int carbs) {
            if (wrongMinute(minute) || carbs < 0 || carbs > 1000 || doses.size() == 200) {
                return NONE;
            }
            goOn(minute);
            doses.add(wanted(carbs));
            return doses.get(doses.size() - 1)[1];
        }

        private int spent(int day, int what) {
            if (day < 0 || day > 69 || what < 0 || what > 2) {
                return NONE;
            }
            int given = 0;
            for (int[] dose : doses) {
                given += dose[0] / 1440 == day ? dose[1] : 0;
            }
            return (what == 1 ? 0 : flowed[day]) + (what == 0 ? 0 : given);
        }

        private int dose(int k, int what) {
            return k < 0 || k >= doses.size() || what < 0 || what > 5 ? NONE : doses.get(k)[what];
        }

        private int last(int what) {
            return latest == null || what < 0 || what > 1 ? NONE : latest[what];
        }
    }
}
