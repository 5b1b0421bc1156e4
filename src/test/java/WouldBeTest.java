/** Promises 35 to 37: the nap to give up, the mean shadow and the checksum. */
public final class WouldBeTest {
    private static final Check check = new Check("WouldBeTest");

    public static void main(String[] args) {
        promise35();
        promise36();
        promise37();
        promise37InNumbers();
        check.end();
    }

    private static void promise35() {
        AfternoonMeter x = new AfternoonMeter();
        check.same("35: without naps", x.bestToGiveUp(), -1);
        x.addNap(0, 100);
        check.same("35: the only one", x.bestToGiveUp(), 0);
        x.addNap(300, 360);
        check.same("35: the first one", x.bestToGiveUp(), 0);
        x.addNap(10, 100);
        check.same("35: not the longest one", x.bestToGiveUp(), 1);
        x.addNap(200, 260);
        check.same("35: of several the smallest number", x.bestToGiveUp(), 1);
        x.addNap(130, 191);
        check.same("35: the last one", x.bestToGiveUp(), 4);
        x.pass(250);
        check.same("35: of the whole afternoon", x.bestToGiveUp(), 4);
        AfternoonMeter twice = Meters.withNap(5, 50);
        twice.addNap(5, 50);
        check.same("35: none of them helps", twice.bestToGiveUp(), 0);
        AfternoonMeter busy = Meters.busy();
        check.same("35: the second one", busy.bestToGiveUp(), 1);
        check.same("35: nothing is changed", Check.behaviour(busy), Check.behaviour(Meters.busy()));
    }

    private static void promise36() {
        AfternoonMeter x = new AfternoonMeter();
        check.same("36: without sticks", x.meanLastShadow(), 0.0);
        x.addStick(12);
        check.same("36: of one", x.meanLastShadow(), 41.0);
        x.addStick(30);
        check.same("36: of two", x.meanLastShadow(), 72.5);
        x.addStick(2);
        check.same("36: of three", x.meanLastShadow(), 151 / 3.0);
        x.addStick(1);
        check.same("36: of four", x.meanLastShadow(), 38.5);
        x.pass(100);
        check.same("36: whichever minute is now", x.meanLastShadow(), 38.5);
    }

    private static void promise37() {
        same("a new one", Meters.fresh());
        same("a busy one", Meters.busy());
        same("a full one", Meters.full());
        AfternoonMeter x = Meters.busy();
        x.pass(310);
        same("at the end", x);
        x.begin();
        same("another afternoon", x);
        x.addStick(29);
        same("another stick", x);
        x.giveUp(0);
        same("a nap less", x);
        AfternoonMeter busy = Meters.busy();
        busy.digest();
        check.same("37: nothing is changed", Check.behaviour(busy), Check.behaviour(Meters.busy()));
    }

    private static void promise37InNumbers() {
        int[] due = {0, 0, 0, 360, 0, 0, 0, 0, 0, 340, 0, -1, -1};
        long d = 2083;
        for (int number : due) {
            d = d * 31 + number;
        }
        check.same("37: of a new object", new AfternoonMeter().digest(), d);
    }

    private static void same(String what, AfternoonMeter x) {
        long[] numbers = {x.afternoon(), x.minute(), x.awakeMinutes(), x.longestAwake(), x.sticks(), x.naps(),
            x.bees(), x.tea(), x.spilt(), x.spiltAtEnd(), x.safeRate(), x.bestToGiveUp(), x.bestBee()};
        long d = 2083;
        for (long number : numbers) {
            d = d * 31 + number;
        }
        for (int stick = 0; stick < x.sticks(); stick++) {
            d = d * 31 + x.shadowAt(stick, 100);
        }
        for (int nap = 0; nap < x.naps(); nap++) {
            d = ((d * 31 + x.startOf(nap)) * 31 + x.lengthOf(nap)) * 31 + x.minutesAlone(nap);
        }
        for (int bee = 0; bee < x.bees(); bee++) {
            d = ((d * 31 + x.ticksOf(bee)) * 31 + x.measuredBy(bee)) * 31 + x.nextTick(bee);
        }
        check.same("37: " + what, x.digest(), d);
    }
}
