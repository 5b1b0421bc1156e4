/** Promises 24 to 29: bees. */
public final class BeesTest {
    private static final Check check = new Check("BeesTest");
    private static final int[] NO_BEES = {-1, 3, 4, 6, Integer.MIN_VALUE, Integer.MAX_VALUE};

    public static void main(String[] args) {
        promise24();
        promise25();
        promises26And27();
        promise28();
        promise29();
        refusals();
        check.end();
    }

    private static void promise24() {
        AfternoonMeter x = new AfternoonMeter();
        for (int i = 0; i < 6; i++) {
            check.same("24: bees", x.bees(), i);
            x.addBee(2 + i, i);
        }
        check.same("24: all bees", x.bees(), 6);
        x.begin();
        check.same("24: in another afternoon", x.bees(), 6);
    }

    private static void promise25() {
        AfternoonMeter x = new AfternoonMeter();
        x.addBee(7, 3);
        check.same("25: at first", x.ticksOf(0), 0);
        x.pass(3);
        check.same("25: the minute of now does not count", x.ticksOf(0), 0);
        x.pass(1);
        check.same("25: it went by", x.ticksOf(0), 1);
        x.pass(46);
        check.same("25: in 50", x.ticksOf(0), 7);
        x.addNap(3, 4);
        check.same("25: by the naps of now", x.ticksOf(0), 6);
        x.addNap(17, 25);
        check.same("25: by both", x.ticksOf(0), 4);
        x.giveUp(0);
        check.same("25: given up", x.ticksOf(0), 5);
        check.same("25: a new bee", x.addBee(10, 0), 1);
        check.same("25: it ticked before it came", x.ticksOf(1), 4);
        x.pass(310);
        check.same("25: at the end", x.ticksOf(1), 35);
        x.begin();
        check.same("25: in this afternoon", x.ticksOf(1), 0);
    }

    private static void promises26And27() {
        AfternoonMeter x = new AfternoonMeter();
        x.addBee(7, 3);
        x.addBee(30, 0);
        x.addBee(2, 1);
        x.addNap(60, 150);
        check.same("26: at first", x.measuredBy(0), 0);
        check.same("27: at first", x.errorOf(0), 0);
        x.pass(50);
        int[][] due = {{49, -1}, {60, 10}, {50, 0}};
        for (int bee = 0; bee < 3; bee++) {
            check.same("26: measured by " + bee, x.measuredBy(bee), due[bee][0]);
            check.same("27: error of " + bee, x.errorOf(bee), due[bee][1]);
        }
        x.pass(70);
        check.same("26: nothing asleep", x.measuredBy(1), 60);
        check.same("27: right now", x.errorOf(1), 0);
        x.addNap(0, 1);
        check.same("26: by the naps of now", x.measuredBy(1), 30);
        check.same("27: by the naps of now", x.errorOf(1), -29);
    }

    private static void promise28() {
        AfternoonMeter x = new AfternoonMeter();
        check.same("28: without bees", x.bestBee(), -1);
        x.addBee(30, 29);
        check.same("28: the only one", x.bestBee(), 0);
        x.pass(20);
        check.same("28: the only one, however bad", x.bestBee(), 0);
        x.addBee(3, 0);
        check.same("28: 1 is nearer than -20", x.bestBee(), 1);
        x.addBee(19, 1);
        check.same("28: -1 is as near as 1", x.bestBee(), 1);
        x.addBee(3, 2);
        check.same("28: -2 is not nearer than 1", x.bestBee(), 1);
        x.addBee(20, 19);
        check.same("28: 0 is the nearest", x.bestBee(), 4);
        x.addBee(2, 0);
        check.same("28: 0 again", x.bestBee(), 4);
        x.begin();
        check.same("28: all are right", x.bestBee(), 0);
        AfternoonMeter late = new AfternoonMeter();
        late.addBee(30, 0);
        late.addBee(10, 9);
        late.pass(5);
        check.same("28: -5 is nearer than 25", late.bestBee(), 1);
    }

    private static void promise29() {
        AfternoonMeter x = new AfternoonMeter();
        x.addBee(30, 4);
        x.addBee(29, 0);
        check.same("29: from 0 on", x.nextTick(0), 4);
        check.same("29: at once", x.nextTick(1), 0);
        x.pass(4);
        check.same("29: in the minute of now", x.nextTick(0), 4);
        x.pass(1);
        check.same("29: behind it", x.nextTick(0), 34);
        x.addNap(30, 65);
        check.same("29: not asleep", x.nextTick(0), 94);
        x.addNap(94, 95);
        check.same("29: not asleep then either", x.nextTick(0), 124);
        x.pass(330);
        check.same("29: not any more", x.nextTick(0), -1);
        check.same("29: the last but one", x.nextTick(1), 348);
        x.pass(25);
        check.same("29: at the end", x.nextTick(1), -1);
        AfternoonMeter last = new AfternoonMeter();
        last.addBee(30, 29);
        last.pass(359);
        check.same("29: the last minute", last.nextTick(0), 359);
        last.addNap(359, 360);
        check.same("29: the last minute asleep", last.nextTick(0), -1);
        last.begin();
        last.addNap(0, 360);
        check.same("29: asleep all the time", last.nextTick(0), -1);
    }

    private static void refusals() {
        for (int bee : NO_BEES) {
            check.index("25: bee " + bee, Meters::busy, y -> y.ticksOf(bee));
            check.index("26: bee " + bee, Meters::busy, y -> y.measuredBy(bee));
            check.index("27: bee " + bee, Meters::busy, y -> y.errorOf(bee));
            check.index("29: bee " + bee, Meters::busy, y -> y.nextTick(bee));
        }
        check.index("25: 0 of none", Meters::fresh, y -> y.ticksOf(0));
        check.index("26: 0 of none", Meters::fresh, y -> y.measuredBy(0));
        check.index("27: 0 of none", Meters::fresh, y -> y.errorOf(0));
        check.index("29: 0 of none", Meters::fresh, y -> y.nextTick(0));
        check.index("25: 6 of 6", Meters::full, y -> y.ticksOf(6));
        check.index("26: 6 of 6", Meters::full, y -> y.measuredBy(6));
        check.index("27: 6 of 6", Meters::full, y -> y.errorOf(6));
        check.index("29: 6 of 6", Meters::full, y -> y.nextTick(6));
    }
}
