import java.util.List;
import java.util.function.ObjIntConsumer;
import java.util.function.Supplier;
import java.util.function.ToIntFunction;

/** The wrong minutes, sticks, naps and bees that must be refused by each call that asks about one. */
final class Refusals {
    private static final int[] NO_MINUTES = {-1, 360, -360, 361, Integer.MIN_VALUE, Integer.MAX_VALUE};
    // None, some, and as many as there may be.
    private static final List<Supplier<AfternoonMeter>> MAKERS =
        List.of(Meters::fresh, Meters::busy, Meters::full);

    private Refusals() {
    }

    static void noMinute(Check check, ObjIntConsumer<AfternoonMeter> call) {
        for (int minute : NO_MINUTES) {
            check.argument("minute " + minute, Meters::busy, x -> call.accept(x, minute));
            check.argument("minute " + minute + " at the end", Meters::ended, x -> call.accept(x, minute));
        }
    }

    static void noSuchStick(Check check, ObjIntConsumer<AfternoonMeter> call) {
        noSuch(check, AfternoonMeter::sticks, call);
    }

    static void noSuchNap(Check check, ObjIntConsumer<AfternoonMeter> call) {
        noSuch(check, AfternoonMeter::naps, call);
    }

    static void noSuchBee(Check check, ObjIntConsumer<AfternoonMeter> call) {
        noSuch(check, AfternoonMeter::bees, call);
    }

    private static void noSuch(Check check, ToIntFunction<AfternoonMeter> counted,
            ObjIntConsumer<AfternoonMeter> call) {
        for (Supplier<AfternoonMeter> maker : MAKERS) {
            int count = counted.applyAsInt(maker.get());
            int[] numbers = {-1, count, count + 1, -count - 1, Integer.MIN_VALUE, Integer.MAX_VALUE};
            for (int number : numbers) {
                check.index(number + " of " + count, maker, x -> call.accept(x, number));
            }
        }
    }
}
