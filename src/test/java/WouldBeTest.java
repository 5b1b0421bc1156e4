import java.math.BigInteger;
import java.util.stream.LongStream;

/** Promises 35 to 37: the nap to give up, the mean shadow and the checksum. */
public final class WouldBeTest {
    private static final Check check = new Check("WouldBeTest");
    private static final Sentences document = new Sentences(check, 35, 37);

    public static void main(String[] args) {
        promise35();
        promise36();
        promise37();
        promise37EachStickNapAndBee();
        document.end();
    }

    private static void promise35() {
        document.underPromise(35);
        document.says("Returns the nap that had best be given up, "
            + "so that one is awake in the most minutes of the whole afternoon", () -> {
            AfternoonMeter x = Meters.withNap(0, 100);
            check.same("the only one", x.bestToGiveUp(), 0);
            x.addNap(300, 360);
            check.same("the first one", x.bestToGiveUp(), 0);
            x.addNap(10, 100);
            check.same("not the longest one", x.bestToGiveUp(), 1);
            x.addNap(130, 191);
            check.same("the last one", x.bestToGiveUp(), 3);
            x.pass(250);
            check.same("whichever minute is now", x.bestToGiveUp(), 3);
            check.same("the second one of three", Meters.busy().bestToGiveUp(), 1);
        });
        document.says("of several the smallest number", () -> {
            AfternoonMeter x = Meters.withNap(5, 6);
            x.addNap(300, 360);
            x.addNap(200, 260);
            check.same("60 and 60", x.bestToGiveUp(), 1);
            AfternoonMeter twice = Meters.withNap(5, 50);
            twice.addNap(5, 50);
            check.same("none of them helps", twice.bestToGiveUp(), 0);
        });
        document.says("-1 without naps", () -> {
            check.same("at first", Meters.fresh().bestToGiveUp(), -1);
            AfternoonMeter x = Meters.withNap(5, 50);
            x.giveUp(0);
            check.same("the only one is given up", x.bestToGiveUp(), -1);
        });
        document.says("(nothing is changed).", () -> {
            check.changesNothing("a new one", Meters::fresh, AfternoonMeter::bestToGiveUp);
            check.changesNothing("a busy one", Meters::busy, AfternoonMeter::bestToGiveUp);
            check.changesNothing("a full one", Meters::full, AfternoonMeter::bestToGiveUp);
        });
    }

    private static void promise36() {
        document.underPromise(36);
        document.says("Returns the mean length of shadows in the minute 359", () -> {
            AfternoonMeter x = new AfternoonMeter();
            x.addStick(12);
            check.same("of one", x.meanLastShadow(), 41.0);
            x.addStick(30);
            check.same("of two", x.meanLastShadow(), 72.5);
            x.addStick(2);
            check.same("of three", x.meanLastShadow(), 151 / 3.0);
            x.addStick(1);
            check.same("of four", x.meanLastShadow(), 38.5);
            x.pass(100);
            check.same("whichever minute is now", x.meanLastShadow(), 38.5);
        });
        document.says("0 without sticks.", () -> {
            check.same("at first", Meters.fresh().meanLastShadow(), 0.0);
            check.same("at the end", Meters.after(360).meanLastShadow(), 0.0);
        });
    }

    private static void promise37() {
        document.underPromise(37);
        document.says("Computes a checksum. A number d starts with 2083; "
            + "for each of the following numbers x, d becomes d * 31 + x",
            () -> isDue("of a new object", new AfternoonMeter(), 0, 0, 0, 360, 0, 0, 0, 0, 0, 340, 0, -1, -1));
        document.says("which wraps around as a 64-bit integer", () -> {
            long least = Long.MAX_VALUE;
            long greatest = Long.MIN_VALUE;
            AfternoonMeter x = new AfternoonMeter();
            for (int afternoon = 0; afternoon < 20; afternoon++) {
                BigInteger whole = checksum(afternoon, 0, 0, 360, 0, 0, 0, 0, 0, 340, 0, -1, -1);
                check.same("more than 64 bits", whole.bitLength() > 64, true);
                check.same("afternoon " + afternoon, x.digest(), whole.longValue());
                least = Math.min(least, x.digest());
                greatest = Math.max(greatest, x.digest());
                x.begin();
            }
            check.same("less than 0 and greater than 0", least < 0 && greatest > 0, true);
        });
        document.says("afternoon(), minute(), awakeMinutes(), longestAwake(), sticks(), naps(), bees(), tea(), "
            + "spilt(), spiltAtEnd(), safeRate(), bestToGiveUp(), bestBee()", () -> {
            AfternoonMeter x = Meters.after(30);
            x.begin();
            x.pass(25);
            isDue("without sticks, naps and bees", x, 1, 25, 25, 360, 0, 0, 0, 20, 5, 340, 0, -1, -1);
        });
    }

    private static void promise37EachStickNapAndBee() {
        document.says("then for each stick shadowAt() of the minute 100", () -> {
            AfternoonMeter x = new AfternoonMeter();
            x.addStick(12);
            x.addStick(30);
            isDue("two", x, 0, 0, 0, 360, 2, 0, 0, 0, 0, 340, 0, -1, -1, 16, 40);
        });
        document.says("then for each nap startOf(), lengthOf(), minutesAlone()", () -> {
            AfternoonMeter x = Meters.withNap(60, 100);
            x.addNap(90, 150);
            isDue("two", x, 0, 0, 0, 210, 0, 2, 0, 0, 0, 250, 0, 1, -1, 60, 40, 30, 90, 60, 50);
        });
        document.says("then for each bee ticksOf(), measuredBy(), nextTick().", () -> {
            AfternoonMeter x = Meters.withTea(1, 0, 0);
            x.addBee(30, 4);
            x.addBee(7, 3);
            x.pass(50);
            isDue("two", x, 0, 50, 50, 360, 0, 0, 2, 0, 0, 0, 0, -1, 1, 2, 60, 64, 7, 49, 52);
            x.pass(310);
            isDue("at the end", x, 0, 360, 360, 360, 0, 0, 2, 0, 0, 0, 9, -1, 0, 12, 360, -1, 51, 357, -1);
        });
        document.says("Returns d.", () -> {
            AfternoonMeter x = Meters.busy();
            isDue("sticks, naps and bees", x, numbersOf(x));
            x.pass(310);
            isDue("at the end", x, numbersOf(x));
            x.begin();
            isDue("in another afternoon", x, numbersOf(x));
            isDue("all there may be", Meters.full(), numbersOf(Meters.full()));
            check.changesNothing("a busy one", Meters::busy, AfternoonMeter::digest);
            check.changesNothing("a full one", Meters::full, AfternoonMeter::digest);
        });
    }

    private static void isDue(String what, AfternoonMeter x, long... numbers) {
        check.same(what, x.digest(), checksum(numbers).longValue());
    }

    /** All numbers of the checksum, as the object itself answers them. */
    private static long[] numbersOf(AfternoonMeter x) {
        LongStream.Builder numbers = LongStream.builder();
        numbers.add(x.afternoon()).add(x.minute()).add(x.awakeMinutes()).add(x.longestAwake()).add(x.sticks())
            .add(x.naps()).add(x.bees()).add(x.tea()).add(x.spilt()).add(x.spiltAtEnd()).add(x.safeRate())
            .add(x.bestToGiveUp()).add(x.bestBee());
        for (int stick = 0; stick < x.sticks(); stick++) {
            numbers.add(x.shadowAt(stick, 100));
        }
        for (int nap = 0; nap < x.naps(); nap++) {
            numbers.add(x.startOf(nap)).add(x.lengthOf(nap)).add(x.minutesAlone(nap));
        }
        for (int bee = 0; bee < x.bees(); bee++) {
            numbers.add(x.ticksOf(bee)).add(x.measuredBy(bee)).add(x.nextTick(bee));
        }
        return numbers.build().toArray();
    }

    /** The number d of the promise, before it wraps around. */
    private static BigInteger checksum(long... numbers) {
        BigInteger d = BigInteger.valueOf(2083);
        for (long number : numbers) {
            d = d.multiply(BigInteger.valueOf(31)).add(BigInteger.valueOf(number));
        }
        return d;
    }
}
