import java.util.Random;
import java.util.function.Supplier;

/** Long runs of calls, wrong ones among them, each answered by the class and by the plain model. */
public final class ModelTest {
    private static final Check check = new Check("ModelTest");
    private static final int RUNS = 400;
    // What an object answers after these is free.
    private static final int CALLS = 512;
    private static final String ARGUMENT = "IllegalArgumentException";
    private static final String STATE = "IllegalStateException";
    private static final String INDEX = "IndexOutOfBoundsException";

    private final Random random;
    private final AfternoonMeter x = new AfternoonMeter();
    private final PlainModel model = new PlainModel();
    private final int longestNap;

    private ModelTest(long seed) {
        random = new Random(seed);
        longestNap = random.nextBoolean() ? 360 : 40;
    }

    public static void main(String[] args) {
        for (int seed = 0; seed < RUNS; seed++) {
            ModelTest run = new ModelTest(seed);
            for (int call = 0; call < CALLS; call++) {
                run.oneCall("run " + seed + ", call " + call + ": ");
            }
        }
        check.end();
    }

    private void oneCall(String where) {
        int kind = random.nextInt(50);
        if (kind < 20) {
            setUp(where, kind);
        } else if (kind < 35) {
            askWith(where, kind);
        } else {
            ask(where, kind);
        }
    }

    private static Object answer(Supplier<Object> call) {
        try {
            return call.get();
        } catch (RuntimeException e) {
            return e.getClass().getSimpleName();
        }
    }

    private int between(int least, int most) {
        return least + random.nextInt(most - least + 1);
    }

    /** Mostly a number from least to most, now and then one beyond. */
    private int around(int least, int most) {
        int far = random.nextInt(40);
        if (far == 0) {
            return random.nextInt();
        }
        return far == 1 ? least - 1 : far == 2 ? most + 1 : between(least, most);
    }

    private static boolean within(int x, int least, int most) {
        return least <= x && x <= most;
    }

    private void setUp(String where, int kind) {
        switch (kind) {
            case 0, 1 -> addStick(where, around(1, 30));
            case 2, 3, 4 -> addNap(where);
            case 5, 6 -> giveUp(where, around(0, Math.max(0, model.naps.size() - 1)));
            case 7, 8 -> addBee(where);
            case 9, 10, 11 -> setTea(where, around(1, 50), around(0, 9), around(0, 9));
            case 12 -> pass(where, around(1, 360));
            case 13, 14, 15, 16, 17, 18 -> pass(where, around(1, 20));
            default -> {
                if (random.nextInt(3) == 0) {
                    begin(where);
                }
            }
        }
    }

    private void addStick(String where, int height) {
        Object due = model.sticks.size();
        if (!within(height, 1, 30)) {
            due = ARGUMENT;
        } else if (model.sticks.size() == 4) {
            due = STATE;
        } else {
            model.sticks.add(height);
        }
        check.same(where + "addStick " + height, answer(() -> x.addStick(height)), due);
    }

    private void addNap(String where) {
        int from = around(0, 359);
        int to = random.nextInt(20) == 0 ? around(0, 360) : Math.min(from, 1000) + between(0, longestNap);
        Object due = model.naps.size();
        if (from < 0 || to > 360 || to <= from) {
            due = ARGUMENT;
        } else if (model.naps.size() == 8) {
            due = STATE;
        } else {
            model.naps.add(new int[] {from, to});
        }
        check.same(where + "addNap " + from + " " + to, answer(() -> x.addNap(from, to)), due);
    }

    private void giveUp(String where, int nap) {
        Object due = INDEX;
        if (within(nap, 0, model.naps.size() - 1)) {
            model.naps.remove(nap);
            due = model.naps.size();
        }
        check.same(where + "giveUp " + nap, answer(() -> x.giveUp(nap)), due);
    }

    private void addBee(String where) {
        int period = around(2, 30);
        int beat = around(0, Math.max(0, Math.min(period, 30) - 1));
        Object due = model.bees.size();
        if (!within(period, 2, 30) || !within(beat, 0, period - 1)) {
            due = ARGUMENT;
        } else if (model.bees.size() == 6) {
            due = STATE;
        } else {
            model.bees.add(new int[] {period, beat});
        }
        check.same(where + "addBee " + period + " " + beat, answer(() -> x.addBee(period, beat)), due);
    }

    private void setTea(String where, int room, int rate, int sip) {
        Object due = ARGUMENT;
        if (within(room, 1, 50) && within(rate, 0, 9) && within(sip, 0, 9)) {
            model.room = room;
            model.rate = rate;
            model.sip = sip;
            due = model.runOver();
        }
        check.same(where + "setTea " + room + " " + rate + " " + sip, answer(() -> x.setTea(room, rate, sip)), due);
    }

    private void pass(String where, int minutes) {
        Object due;
        if (!within(minutes, 1, 360)) {
            due = ARGUMENT;
        } else if (model.minute + minutes > 360) {
            due = STATE;
        } else {
            due = model.pass(minutes);
        }
        check.same(where + "pass " + minutes, answer(() -> x.pass(minutes)), due);
    }

    private void begin(String where) {
        model.minute = 0;
        model.tea = 0;
        model.spilt = 0;
        model.afternoon++;
        check.same(where + "begin", x.begin(), model.afternoon);
    }

    private void askWith(String where, int kind) {
        int m = around(0, 359);
        boolean isMinute = within(m, 0, 359);
        int nap = around(0, Math.max(0, model.naps.size() - 1));
        boolean isNap = within(nap, 0, model.naps.size() - 1);
        switch (kind) {
            case 20 -> same(where + "isAsleep " + m, () -> x.isAsleep(m), isMinute, ARGUMENT,
                () -> model.napsAt(m) > 0);
            case 21 -> same(where + "napsAt " + m, () -> x.napsAt(m), isMinute, ARGUMENT, () -> model.napsAt(m));
            case 22 -> same(where + "allShadows " + m, () -> x.allShadows(m), isMinute, ARGUMENT,
                () -> model.allShadows(m));
            case 23 -> same(where + "startOf " + nap, () -> x.startOf(nap), isNap, INDEX, () -> model.naps.get(nap)[0]);
            case 24 -> same(where + "lengthOf " + nap, () -> x.lengthOf(nap), isNap, INDEX,
                () -> model.naps.get(nap)[1] - model.naps.get(nap)[0]);
            case 25, 26 -> same(where + "minutesAlone " + nap, () -> x.minutesAlone(nap), isNap, INDEX,
                () -> model.minutesAlone(nap));
            case 27, 28 -> askStick(where, kind, around(0, Math.max(0, model.sticks.size() - 1)), m);
            default -> askBee(where, kind, around(0, Math.max(0, model.bees.size() - 1)));
        }
    }

    private void askStick(String where, int kind, int stick, int m) {
        boolean isStick = within(stick, 0, model.sticks.size() - 1);
        if (kind == 27) {
            same(where + "shadowAt " + stick + " " + m, () -> x.shadowAt(stick, m), isStick && within(m, 0, 359),
                isStick ? ARGUMENT : INDEX, () -> model.shadowAt(stick, m));
        } else {
            int length = around(0, 106);
            same(where + "minuteOfShadow " + stick + " " + length, () -> x.minuteOfShadow(stick, length),
                isStick, INDEX, () -> model.minuteOfShadow(stick, length));
        }
    }

    private void askBee(String where, int kind, int bee) {
        boolean isBee = within(bee, 0, model.bees.size() - 1);
        switch (kind) {
            case 29 -> same(where + "ticksOf " + bee, () -> x.ticksOf(bee), isBee, INDEX, () -> model.ticksOf(bee));
            case 30 -> same(where + "measuredBy " + bee, () -> x.measuredBy(bee), isBee, INDEX,
                () -> model.measuredBy(bee));
            case 31, 32 -> same(where + "errorOf " + bee, () -> x.errorOf(bee), isBee, INDEX, () -> model.errorOf(bee));
            default -> same(where + "nextTick " + bee, () -> x.nextTick(bee), isBee, INDEX, () -> model.nextTick(bee));
        }
    }

    private static void same(String what, Supplier<Object> call, boolean right, String refused, Supplier<Object> due) {
        check.same(what, answer(call), right ? due.get() : refused);
    }

    private void ask(String where, int kind) {
        switch (kind) {
            case 35 -> check.same(where + "afternoon", x.afternoon(), model.afternoon);
            case 36 -> check.same(where + "minute", x.minute(), model.minute);
            case 37 -> check.same(where + "awakeMinutes", x.awakeMinutes(), model.awakeBetween(0, model.minute));
            case 38 -> check.same(where + "sleptMinutes", x.sleptMinutes(),
                model.minute - model.awakeBetween(0, model.minute));
            case 39 -> check.same(where + "longestAwake", x.longestAwake(), model.longestAwake());
            case 40 -> check.same(where + "sticks", x.sticks(), model.sticks.size());
            case 41 -> check.same(where + "naps", x.naps(), model.naps.size());
            case 42 -> check.same(where + "bees", x.bees(), model.bees.size());
            case 43 -> check.same(where + "bestBee", x.bestBee(), model.bestBee());
            case 44 -> check.same(where + "tea", x.tea(), model.tea);
            case 45 -> check.same(where + "spilt", x.spilt(), model.spilt);
            case 46 -> check.same(where + "spiltAtEnd", x.spiltAtEnd(), model.spiltAtEnd());
            case 47 -> check.same(where + "minuteOfSpill", x.minuteOfSpill(), model.minuteOfSpill());
            case 48 -> askMore(where);
            default -> check.same(where + "digest", x.digest(), model.digest());
        }
    }

    private void askMore(String where) {
        switch (random.nextInt(3)) {
            case 0 -> check.same(where + "safeRate", x.safeRate(), model.safeRate());
            case 1 -> check.same(where + "bestToGiveUp", x.bestToGiveUp(), model.bestToGiveUp());
            default -> check.same(where + "meanLastShadow", x.meanLastShadow(), model.meanLastShadow());
        }
    }
}
