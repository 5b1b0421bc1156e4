/** Promises 24 to 29: bees. */
public final class BeesTest {
    private static final Check check = new Check("BeesTest");
    private static final Sentences document = new Sentences(check, 24, 29);

    public static void main(String[] args) {
        promise24();
        promise25();
        promise26();
        promise27();
        promise28();
        promise29();
        document.end();
    }

    private static void promise24() {
        document.underPromise(24);
        document.says("Returns how many bees there are.", () -> {
            AfternoonMeter x = new AfternoonMeter();
            for (int i = 0; i < 6; i++) {
                check.same("bees", x.bees(), i);
                x.addBee(2 + i, i);
            }
            check.same("all bees", x.bees(), 6);
            x.begin();
            check.same("in another afternoon", x.bees(), 6);
        });
    }

    private static void promise25() {
        document.underPromise(25);
        document.says("Returns how often it ticked in the minutes that went by", () -> {
            AfternoonMeter x = Meters.withBee(7, 3);
            check.same("at first", x.ticksOf(0), 0);
            x.pass(3);
            check.same("the minute of now does not count", x.ticksOf(0), 0);
            x.pass(1);
            check.same("it went by", x.ticksOf(0), 1);
            x.pass(46);
            check.same("in 50", x.ticksOf(0), 7);
            check.same("a new bee", x.addBee(10, 0), 1);
            check.same("it ticked before it came", x.ticksOf(1), 5);
            x.pass(310);
            check.same("at the end", x.ticksOf(1), 36);
            x.begin();
            check.same("in this afternoon", x.ticksOf(1), 0);
        });
        document.says("by the naps of now.", () -> {
            AfternoonMeter x = Meters.withBee(7, 3);
            x.pass(50);
            x.addNap(3, 4);
            check.same("one", x.ticksOf(0), 6);
            x.addNap(17, 25);
            check.same("both", x.ticksOf(0), 4);
            x.giveUp(0);
            check.same("one given up", x.ticksOf(0), 5);
            x.addNap(0, 360);
            check.same("asleep all the time", x.ticksOf(0), 0);
        });
        document.says("Throws `IndexOutOfBoundsException` if there is no such bee",
            () -> Refusals.noSuchBee(check, AfternoonMeter::ticksOf));
    }

    /** Its bees measure 49, 60 and 50 minutes of 50. */
    private static AfternoonMeter after50() {
        AfternoonMeter x = Meters.withBee(7, 3);
        x.addBee(30, 0);
        x.addBee(2, 1);
        x.addNap(60, 150);
        x.pass(50);
        return x;
    }

    private static void promise26() {
        document.underPromise(26);
        document.says("Returns how many minutes are measured by it.", () -> {
            check.same("at first", Meters.withBee(30, 0).measuredBy(0), 0);
            AfternoonMeter x = after50();
            int[] due = {49, 60, 50};
            for (int bee = 0; bee < 3; bee++) {
                check.same("by " + bee, x.measuredBy(bee), due[bee]);
            }
            x.pass(70);
            check.same("nothing asleep", x.measuredBy(1), 60);
            x.addNap(0, 1);
            check.same("by the naps of now", x.measuredBy(1), 30);
            x.begin();
            check.same("in another afternoon", x.measuredBy(1), 0);
        });
        document.says("Throws `IndexOutOfBoundsException` if there is no such bee",
            () -> Refusals.noSuchBee(check, AfternoonMeter::measuredBy));
    }

    private static void promise27() {
        document.underPromise(27);
        document.says("Returns how many minutes are measured by it, less awakeMinutes().", () -> {
            check.same("at first", Meters.withBee(30, 0).errorOf(0), 0);
            AfternoonMeter x = after50();
            int[] due = {-1, 10, 0};
            for (int bee = 0; bee < 3; bee++) {
                check.same("of " + bee, x.errorOf(bee), due[bee]);
            }
            x.pass(70);
            check.same("right now", x.errorOf(1), 0);
            x.addNap(0, 1);
            check.same("by the naps of now", x.errorOf(1), -29);
        });
        document.says("Throws `IndexOutOfBoundsException` if there is no such bee",
            () -> Refusals.noSuchBee(check, AfternoonMeter::errorOf));
    }

    private static void promise28() {
        document.underPromise(28);
        document.says("Returns the bee whose error is the nearest to 0", () -> {
            AfternoonMeter x = Meters.withBee(30, 29);
            x.pass(20);
            check.same("the only one, however bad", x.bestBee(), 0);
            x.addBee(3, 0);
            check.same("1 is nearer than -20", x.bestBee(), 1);
            x.addBee(3, 2);
            check.same("-2 is not nearer than 1", x.bestBee(), 1);
            x.addBee(20, 19);
            check.same("0 is the nearest", x.bestBee(), 3);
            AfternoonMeter late = Meters.withBee(30, 0);
            late.addBee(10, 9);
            late.pass(5);
            check.same("-5 is nearer than 25", late.bestBee(), 1);
        });
        document.says("of several the smallest number", () -> {
            AfternoonMeter full = Meters.full();
            full.begin();
            check.same("all are right at first", full.bestBee(), 0);
            AfternoonMeter x = Meters.withBee(30, 29);
            x.addBee(3, 0);
            x.addBee(19, 1);
            x.pass(20);
            check.same("1 and -1", x.bestBee(), 1);
            AfternoonMeter y = Meters.withBee(19, 1);
            y.addBee(3, 0);
            y.pass(20);
            check.same("-1 and 1", y.bestBee(), 0);
            y.addBee(20, 19);
            y.addBee(2, 0);
            check.same("0 and 0", y.bestBee(), 2);
        });
        document.says("-1 without bees.", () -> {
            check.same("at first", Meters.fresh().bestBee(), -1);
            check.same("at the end", Meters.after(360).bestBee(), -1);
            check.same("with one bee", Meters.withBee(2, 0).bestBee(), 0);
        });
    }

    private static void promise29() {
        document.underPromise(29);
        document.says("Returns the minute, from that of now on, in which it ticks next", () -> {
            AfternoonMeter x = Meters.withBee(30, 4);
            x.addBee(29, 0);
            check.same("from 0 on", x.nextTick(0), 4);
            check.same("at once", x.nextTick(1), 0);
            x.pass(4);
            check.same("in the minute of now", x.nextTick(0), 4);
            x.pass(1);
            check.same("behind it", x.nextTick(0), 34);
            x.addNap(30, 65);
            check.same("not asleep", x.nextTick(0), 94);
            x.addNap(94, 95);
            check.same("not asleep then either", x.nextTick(0), 124);
            AfternoonMeter last = Meters.withBee(30, 29);
            last.pass(359);
            check.same("in the last minute", last.nextTick(0), 359);
        });
        document.says("-1 if it does not any more in this afternoon.", () -> {
            AfternoonMeter x = Meters.withBee(29, 0);
            x.pass(348);
            check.same("the last one comes", x.nextTick(0), 348);
            x.pass(1);
            check.same("the last one went by", x.nextTick(0), -1);
            AfternoonMeter last = Meters.withBee(30, 29);
            last.pass(359);
            last.addNap(359, 360);
            check.same("asleep in the last minute", last.nextTick(0), -1);
            last.begin();
            last.addNap(0, 360);
            check.same("asleep all the time", last.nextTick(0), -1);
            check.same("at the end", Meters.ended().nextTick(0), -1);
        });
        document.says("Throws `IndexOutOfBoundsException` if there is no such bee", () -> {
            Refusals.noSuchBee(check, AfternoonMeter::nextTick);
            check.index("6 of 6, at the end", Meters::ended, x -> x.nextTick(6));
        });
    }
}
